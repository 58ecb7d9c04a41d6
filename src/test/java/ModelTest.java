import java.util.Random;

/** Random runs of calls, the class and the Model side by side. */
public final class ModelTest {
    private static final int RUNS = 2500;
    private static final int CALLS = 120;
    private static final Check check = new Check("ModelTest");

    public static void main(String[] args) {
        for (int run = 0; run < RUNS && !check.failed(); run++) {
            oneRun(run);
        }
        for (int n = 0; n <= 31; n++) {
            allChances(n);
        }
        check.finish();
    }

    private static void allChances(int n) {
        SortWorks x = new SortWorks();
        Model model = new Model();
        for (int b = -1; b <= n + 1; b++) {
            for (int s = -1; s <= n + 1; s++) {
                int a = Math.floorMod(b * 7 + s, s + 3) - 1;
                for (int part = 0; part < 2; part++) {
                    check.due("chance(" + n + ", " + b + ", " + s + ", " + a + ", " + part + ")",
                        x.chance(n, b, s, a, part), model.chance(n, b, s, a, part));
                }
            }
        }
    }

    private static void oneRun(int run) {
        Random random = new Random(run);
        SortWorks x = new SortWorks();
        Model model = new Model();
        for (int call = 0; call < CALLS && !check.failed(); call++) {
            String where = "run " + run + ", call " + call + ": ";
            if (call % 30 == 0) {
                tellPlan(random, x, model, where);
            } else if (random.nextInt(100) < 2) {
                check.due(where + "best()", x.best(), model.best());
            } else {
                oneCall(random, x, model, where);
            }
        }
    }

    private static void tellPlan(Random random, SortWorks x, Model model, String where) {
        Texts texts = new Texts(random);
        String text = texts.plan();
        if (random.nextInt(3) > 0) {
            check.due(where + "end(0)", x.end(0), model.end(0));
        }
        int length = x.about(3) + text.length();
        for (int at = 0; at < text.length(); at += 20) {
            int[] n = new int[5];
            for (int i = 0; i < 5; i++) {
                n[i] = Check.number(text, at + 4 * i);
            }
            check.due(where + "feed", x.feed(n[0], n[1], n[2], n[3], n[4]), model.feed(n));
        }
        check.due(where + "end", x.end(length), model.end(length));
        String read = model.tape;
        check.due(where + "plan() of " + read, x.plan(), model.plan());
        check.due(where + "fault(0) of " + read, x.fault(0), model.fault(0));
        check.due(where + "fault(1) of " + read, x.fault(1), model.fault(1));
        check.due(where + "about(3)", x.about(3), model.about(3));
        check.due(where + "about(0)", x.about(0), model.about(0));
    }

    private static int near(Random random, int most) {
        int way = random.nextInt(40);
        return way == 0 ? -1 : way == 1 ? most + 1 : way == 2 ? random.nextInt() : random.nextInt(most + 1);
    }

    private static void oneCall(Random random, SortWorks x, Model model, String where) {
        int a = near(random, 4);
        int b = near(random, 4);
        int c = near(random, 2);
        int[] loads = new int[5];
        switch (random.nextInt(20)) {
            case 0 -> check.due(where + "unit", x.unit(a, b - 1), model.unit(a, b - 1));
            case 1 -> check.due(where + "setting", x.setting(a, c, b), model.setting(a, c, b));
            case 2, 3 -> check.due(where + "choose", x.choose(a, c), model.choose(a, c));
            case 4 -> check.due(where + "whole", x.whole(a), model.whole(a));
            case 5, 6 -> check.due(where + "part", x.part(a, b), model.part(a, b));
            case 7, 8 -> {
                int grams = random.nextInt(4) == 0 ? -1 : near(random, random.nextBoolean() ? 1000000 : 3000);
                check.due(where + "inflow", x.inflow(a, grams), model.inflow(a, grams));
            }
            case 9 -> check.due(where + "comes", x.comes(a), model.comes(a));
            case 10 -> check.due(where + "grams", x.grams(a, b), model.grams(a, b));
            case 11 -> check.due(where + "purity", x.purity(a), model.purity(a));
            case 12 -> check.due(where + "earns", x.earns(a), model.earns(a));
            case 13 -> {
                int coins = near(random, random.nextBoolean() ? 9999 : 20);
                check.due(where + "cost", x.cost(coins), model.cost(coins));
            }
            case 14 -> check.due(where + "worth", x.worth(), model.worth());
            case 15 -> {
                int weight = near(random, random.nextBoolean() ? 20000 : 9);
                int scale = random.nextInt(3) == 0 ? 1000 : random.nextInt(5);
                for (int i = 0; i < 5; i++) {
                    loads[i] = random.nextInt(200) == 0 ? near(random, 1000) : random.nextInt(scale + 1);
                }
                check.due(where + "lorry", x.lorry(a, weight, loads[0], loads[1], loads[2], loads[3], loads[4]),
                    model.lorry(a, weight, loads));
            }
            case 16 -> {
                int lorry = near(random, 3 + 2 * random.nextInt(10));
                check.due(where + "strike", x.strike(lorry), model.strike(lorry));
            }
            case 17 -> check.due(where + "brought", x.brought(a, b), model.brought(a, b));
            case 18 -> {
                int sum = near(random, random.nextBoolean() ? 10000000 : 30);
                for (int town = 0; town < 5; town++) {
                    check.due(where + "share", x.share(town, b, sum), model.share(town, b, sum));
                }
            }
            default -> {
                int what = near(random, 14);
                check.due(where + "about", x.about(what), model.about(what));
            }
        }
    }

    /** Texts of plans: mostly good ones, some of them hurt. */
    private record Texts(Random random) {
        private static final String[] NAMES = {"a", "b", "drum", "jet", "abcdefgh", "units"};
        private static final String[] ODD = {"unit", "yes", "no", "set", "grade", "bale", "refuse", ";", "0", "3", "4", "5", "100",
            "101", "00100", "000000", "9999", "10000", "99999", "abcdefghi", "?", "A", "zz", "1a", "a1", "\n", "  ", "" + (char) 200};

        String plan() {
            StringBuilder text = new StringBuilder();
            int units = random.nextInt(30) == 0 ? 6 : 1 + random.nextInt(5);
            for (int u = 0; u < units; u++) {
                text.append("unit ").append(NAMES[u]).append(" yes ").append(out(units));
                text.append(" no ").append(out(units)).append(sign());
            }
            int sets = random.nextInt(units * 3);
            for (int s = 0; s < sets; s++) {
                String name = random.nextInt(60) == 0 ? "zz" : NAMES[s % units];
                String line = "set " + name + " " + percents() + sign();
                if (random.nextBoolean()) {
                    text.append(line);
                } else {
                    text.insert(0, line);
                }
            }
            int grades = random.nextInt(9);
            for (int g = 0; g < grades; g++) {
                int bale = random.nextInt(4);
                int kind = random.nextInt(12) == 0 ? random.nextInt(5) : bale;
                text.append("grade ").append(bale).append(' ').append(kind).append(' ').append(random.nextInt(101));
                text.append(' ').append(random.nextInt(10000)).append(sign());
            }
            for (int hurt = random.nextInt(4) == 0 ? 1 + random.nextInt(2) : 0; hurt > 0 && text.length() > 0; hurt--) {
                hurt(text);
            }
            return text.toString();
        }

        private String out(int units) {
            int way = random.nextInt(10);
            return way < 2 ? "refuse" : way < 6 ? "bale " + random.nextInt(4) : NAMES[random.nextInt(units)];
        }

        private String sign() {
            return new String[] {";", "; ", " ;\n", ";\n"}[random.nextInt(4)];
        }

        private String percents() {
            StringBuilder row = new StringBuilder();
            for (int kind = 0; kind < 5; kind++) {
                int way = random.nextInt(4);
                row.append(way == 0 ? 0 : way == 1 ? 100 : random.nextInt(101)).append(kind < 4 ? " " : "");
            }
            return row.toString();
        }

        private void hurt(StringBuilder text) {
            int at = random.nextInt(text.length());
            switch (random.nextInt(5)) {
                case 0 -> text.deleteCharAt(at);
                case 1 -> text.insert(at, ODD[random.nextInt(ODD.length)]);
                case 2 -> text.insert(at, " " + ODD[random.nextInt(ODD.length)] + " ");
                case 3 -> text.setLength(at);
                default -> {
                    int from = Math.max(text.lastIndexOf(" ", at), 0);
                    int to = text.indexOf(" ", at + 1);
                    text.replace(from, to < 0 ? text.length() : to, " " + ODD[random.nextInt(ODD.length)]);
                }
            }
        }
    }
}
