import java.util.Random;

/** Any arguments in any state: no call throws, and one that is refused changes nothing. */
public final class WildTest {
    private static final int RUNS = 1500;
    private static final int CALLS = 512;
    private static final Check check = new Check("WildTest");
    private static final int[] EDGES = {Integer.MIN_VALUE, Integer.MAX_VALUE, -2, -1, 0, 1, 2, 3, 4, 5, 10, 13, 14, 20, 30, 31, 59, 60,
        100, 101, 1000, 1001, 1180, 1200, 1201, 9999, 10000, 20000, 20001, 1000000, 1000001, 10000000, 10000001};
    private static final String LETTERS = "unit a yes bale 3 no refuse; set a 100 0 50 1 0; grade 3 4 9 7; unit b yes a no b;";

    public static void main(String[] args) {
        for (int run = 0; run < RUNS; run++) {
            Random random = new Random(run);
            SortWorks x = new SortWorks();
            for (int call = 0; call < CALLS / 4; call++) {
                wildCall(random, x);
            }
        }
        longTexts();
        check.finish();
    }

    private static int wild(Random random) {
        int way = random.nextInt(8);
        return way == 0 ? random.nextInt() : way < 3 ? EDGES[random.nextInt(EDGES.length)] : random.nextInt(6);
    }

    private static void wildCall(Random random, SortWorks x) {
        int[] n = new int[7];
        for (int i = 0; i < 7; i++) {
            n[i] = wild(random);
        }
        if (random.nextInt(20) == 0) {
            int from = random.nextInt(LETTERS.length());
            Check.feed(x, LETTERS.substring(random.nextBoolean() ? 0 : from));
            n[6] = -9;
        }
        int which = n[6] == -9 ? 2 : random.nextInt(23);
        long before = state(x);
        boolean refused = call(which, n, x);
        if (refused) {
            check.due("state behind a refused call " + which, state(x), before);
        }
    }

    /** True if the answer says that nothing was done. */
    private static boolean call(int which, int[] n, SortWorks x) {
        return switch (which) {
            case 0 -> x.feed(n[0], n[1], n[2], n[3], n[4]) == -1;
            case 1 -> x.end(n[0]) == -1;
            case 2 -> x.plan() == -1;
            case 3 -> !x.choose(n[0], n[1]);
            case 4 -> !x.inflow(n[0], n[1]);
            case 5 -> !x.cost(n[0]);
            case 6 -> x.lorry(n[0], n[1], n[2], n[3], n[4], n[5], n[6]) == -1;
            case 7 -> !x.strike(n[0]);
            case 8 -> x.best() == Integer.MIN_VALUE;
            default -> {
                ask(which, n, x);
                yield true;
            }
        };
    }

    private static long ask(int which, int[] n, SortWorks x) {
        return switch (which) {
            case 9 -> x.fault(n[0]);
            case 10 -> x.unit(n[0], n[1]);
            case 11 -> x.setting(n[0], n[1], n[2]);
            case 12 -> x.whole(n[0]);
            case 13 -> x.part(n[0], n[1]);
            case 14 -> x.comes(n[0]);
            case 15 -> x.grams(n[0], n[1]);
            case 16 -> x.purity(n[0]);
            case 17 -> x.earns(n[0]);
            case 18 -> x.worth();
            case 19 -> x.chance(n[0], n[1], n[2], n[3], n[4]);
            case 20 -> x.brought(n[0], n[1]);
            case 21 -> x.share(n[0], n[1], n[2]);
            default -> x.about(n[0]);
        };
    }

    private static long state(SortWorks x) {
        long state = 7;
        for (int i = 0; i < 14; i++) {
            state = state * 31 + x.about(i);
        }
        for (int i = 0; i < 5; i++) {
            state = state * 31 + x.comes(i);
            for (int j = 0; j < 5; j++) {
                state = state * 31 + x.unit(i, j);
                state = state * 31 + x.part(i, j);
                state = state * 31 + x.brought(i, j);
                state = state * 31 + x.setting(i, j % 3, j);
            }
        }
        return state * 31 + x.worth();
    }

    /** As many lines, names and tokens as 1,200 bytes can hold. */
    private static void longTexts() {
        StringBuilder sets = new StringBuilder();
        for (int line = 0; line < 78; line++) {
            sets.append("set ").append((char) ('a' + line % 26)).append("0 0 0 0 0;");
        }
        check.due("78 settings of no unit", Check.plan(new SortWorks(), sets.toString()), -1);
        SortWorks names = new SortWorks();
        StringBuilder many = new StringBuilder("unit a yes b no c;unit d yes e no f;unit g yes h no i;unit j yes k no l;unit m yes n no o;");
        for (int line = 0; line < 69; line++) {
            many.append("set ").append((char) ('a' + line / 26)).append((char) ('a' + line % 26)).append("0 0 0 0 0;");
        }
        check.due("84 names", Check.plan(names, many.toString()), -1);
        check.due("its fault", names.fault(0), 6);
        check.due("at the first of them", names.fault(1), 11);
        check.due("85 names", Check.plan(names, many + "set zz"), -1);
        check.due("its fault", names.fault(0), 2);
        check.due("at its end", names.fault(1), 1200);
        for (String run : new String[] {"a", "9", ";", "a ", "0;", "unit ", "set", "set a", "grade 0", (char) 128 + "", (char) 0 + ""}) {
            SortWorks x = new SortWorks();
            check.due("a run of " + run, Check.plan(x, run.repeat(1200 / run.length())), -1);
        }
        String five = "unit a yes refuse no b;unit b yes c no d;unit c yes d no e;unit d yes e no a;unit e yes bale 0 no a;";
        StringBuilder full = new StringBuilder(five);
        for (int line = 0; line < 15; line++) {
            full.append("set ").append((char) ('a' + line % 5)).append(" 1 2 3 4 ").append(line).append(';');
        }
        SortWorks x = new SortWorks();
        check.due("5 units with 3 settings", Check.plan(x, full.toString()), 5);
        for (int kind = 0; kind < 5; kind++) {
            x.inflow(kind, 1000000);
        }
        check.due("best() of 243 choices is a worth()", x.best(), x.worth());
    }
}
