import java.math.BigInteger;
import java.util.ArrayList;
import java.util.Arrays;
import java.util.HashMap;
import java.util.List;
import java.util.Map;
import java.util.TreeSet;

/** A second, plain writing of the document, by other ways than the class: the tests hold both side by side. */
final class Model {
    private static final List<String> RESERVED = List.of("unit", "yes", "no", "set", "grade", "bale", "refuse");

    record Token(int place, String text, boolean good) {
        boolean number() {
            return good && Character.isDigit(text.charAt(0));
        }

        boolean name() {
            return good && Character.isLetter(text.charAt(0)) && !RESERVED.contains(text);
        }
    }

    record Fault(int place, int number) implements Comparable<Fault> {
        public int compareTo(Fault other) {
            return place != other.place ? Integer.compare(place, other.place) : Integer.compare(number, other.number);
        }
    }

    static final class Unit {
        String name;
        String yes;
        String no;
        List<int[]> settings = new ArrayList<>();
    }

    record Grade(int purity, int price) { }

    static final class Bale {
        int kind = -1;
        List<Grade> grades = new ArrayList<>();
    }

    record Lorry(int town, int[] loads, boolean[] struck) { }

    String tape = "";
    List<Unit> units = new ArrayList<>();
    Bale[] bales = {new Bale(), new Bale(), new Bale(), new Bale()};
    Fault fault;
    int[] choice = new int[5];
    Integer[] byHand = new Integer[5];
    List<Lorry> lorries = new ArrayList<>();
    int cost = 10;

    int feed(int... numbers) {
        if (tape.length() > 1180) {
            return -1;
        }
        for (int number : numbers) {
            for (int i = 3; i >= 0; i--) {
                tape += (char) (number >>> (8 * i) & 255);
            }
        }
        return tape.length();
    }

    int end(int n) {
        if (n < 0 || n > tape.length()) {
            return -1;
        }
        tape = tape.substring(0, n);
        return n;
    }

    // The text.

    private static List<Token> tokens(String text) {
        List<Token> tokens = new ArrayList<>();
        int at = 0;
        while (at < text.length()) {
            String rest = text.substring(at);
            String run = rest.replaceFirst("(?s)^([a-z]+|[0-9]+|.).*$", "$1");
            if (!run.equals(" ") && !run.equals("\n")) {
                boolean good = run.matches("[a-z]{1,8}|;")
                    || run.matches("[0-9]{1,5}") && !rest.substring(run.length()).matches("(?s)[a-z].*");
                tokens.add(new Token(at, run, good));
            }
            at += run.length();
        }
        tokens.add(new Token(text.length(), "", true));
        return tokens;
    }

    private List<Token> line;
    private int at;
    private TreeSet<Fault> faults;

    /** The TOKEN that stands next if it fits the want; else null, with a FAULT. */
    private Token want(String want) {
        if (!faults.isEmpty()) {
            return null;
        }
        Token token = line.get(at);
        boolean fits = !token.text.isEmpty() && switch (want) {
            case "NAME" -> token.name();
            case "NUMBER" -> token.number();
            default -> token.text.equals(want);
        };
        if (!token.good) {
            faults.add(new Fault(token.place, 1));
        } else if (!fits) {
            faults.add(new Fault(token.place, 2));
        } else {
            at++;
            return token;
        }
        return null;
    }

    private int number(int most, java.util.function.IntUnaryOperator alsoFault) {
        Token token = want("NUMBER");
        if (token == null) {
            return -1;
        }
        int value = Integer.parseInt(token.text);
        if (value > most) {
            faults.add(new Fault(token.place, 4));
        } else if (alsoFault.applyAsInt(value) > 0) {
            faults.add(new Fault(token.place, alsoFault.applyAsInt(value)));
        }
        return value;
    }

    private String out(Map<String, Integer> mentioned) {
        if (faults.isEmpty() && line.get(at).text.equals("refuse")) {
            at++;
            return "20";
        }
        if (faults.isEmpty() && line.get(at).text.equals("bale")) {
            at++;
            return "" + (10 + number(3, b -> 0));
        }
        Token token = want("NAME");
        if (token == null) {
            return "";
        }
        mentioned.putIfAbsent(token.text, token.place);
        return token.text;
    }

    int plan() {
        line = tokens(tape);
        at = 0;
        faults = new TreeSet<>();
        List<Unit> newUnits = new ArrayList<>();
        Bale[] newBales = {new Bale(), new Bale(), new Bale(), new Bale()};
        Map<String, Integer> mentioned = new HashMap<>();
        Map<String, List<int[]>> sets = new HashMap<>();
        while (faults.isEmpty() && !line.get(at).text.isEmpty()) {
            String first = line.get(at).text;
            if (first.equals("unit") && newUnits.size() < 5) {
                at++;
                readUnit(newUnits, mentioned);
            } else if (first.equals("set")) {
                at++;
                readSet(sets, mentioned);
            } else if (first.equals("grade")) {
                at++;
                readGrade(newBales);
            } else {
                faults.add(new Fault(line.get(at).place, line.get(at).good ? 2 : 1));
            }
        }
        if (faults.isEmpty()) {
            for (Unit unit : newUnits) {
                mentioned.remove(unit.name);
            }
            for (int place : mentioned.values()) {
                faults.add(new Fault(place, 6));
            }
        }
        if (!faults.isEmpty()) {
            fault = faults.first();
            return -1;
        }
        fault = null;
        tape = "";
        for (Unit unit : newUnits) {
            unit.settings = sets.getOrDefault(unit.name, new ArrayList<>(List.of(new int[5])));
        }
        units = newUnits;
        bales = newBales;
        choice = new int[5];
        return units.size();
    }

    private void readUnit(List<Unit> newUnits, Map<String, Integer> mentioned) {
        Unit unit = new Unit();
        Token name = want("NAME");
        if (name == null) {
            return;
        }
        unit.name = name.text;
        if (newUnits.stream().anyMatch(u -> u.name.equals(name.text))) {
            faults.add(new Fault(name.place, 3));
        }
        want("yes");
        unit.yes = out(mentioned);
        want("no");
        unit.no = out(mentioned);
        want(";");
        newUnits.add(unit);
    }

    private void readSet(Map<String, List<int[]>> sets, Map<String, Integer> mentioned) {
        Token name = want("NAME");
        if (name == null) {
            return;
        }
        mentioned.putIfAbsent(name.text, name.place);
        List<int[]> rows = sets.computeIfAbsent(name.text, k -> new ArrayList<>());
        if (rows.size() == 3) {
            faults.add(new Fault(name.place, 2));
        }
        int[] row = new int[5];
        for (int kind = 0; kind < 5; kind++) {
            row[kind] = number(100, n -> 0);
        }
        want(";");
        rows.add(row);
    }

    private void readGrade(Bale[] newBales) {
        int b = number(3, n -> newBales[n].grades.size() == 4 ? 2 : 0);
        Bale bale = b >= 0 && b < 4 ? newBales[b] : new Bale();
        int kind = number(4, n -> bale.kind >= 0 && bale.kind != n ? 5 : 0);
        int purity = number(100, n -> bale.grades.stream().anyMatch(g -> g.purity == n) ? 5 : 0);
        int price = number(9999, n -> 0);
        want(";");
        bale.kind = kind;
        bale.grades.add(new Grade(purity, price));
    }

    int fault(int what) {
        return what == 0 ? fault == null ? 0 : fault.number : what == 1 && fault != null ? fault.place : -1;
    }

    // Units and settings.

    private int lead(String out) {
        for (int u = 0; u < units.size(); u++) {
            if (units.get(u).name.equals(out)) {
                return u;
            }
        }
        return Integer.parseInt(out);
    }

    int unit(int unit, int what) {
        if (unit < 0 || unit >= units.size() || what < 0 || what > 3) {
            return -1;
        }
        Unit u = units.get(unit);
        return new int[] {u.settings.size(), lead(u.yes), lead(u.no), choice[unit]}[what];
    }

    int setting(int unit, int setting, int kind) {
        return setting < 0 || setting >= unit(unit, 0) || kind < 0 || kind > 4 ? -1 : units.get(unit).settings.get(setting)[kind];
    }

    boolean choose(int unit, int setting) {
        if (setting(unit, setting, 0) < 0) {
            return false;
        }
        choice[unit] = setting;
        return true;
    }

    // Ends, by Leibniz's sum over permutations and Gauss' steps on fractions.

    private int[][] flows(int kind) {
        int[][] flows = new int[units.size()][21];
        for (int u = 0; u < units.size(); u++) {
            int yes = units.get(u).settings.get(choice[u])[kind];
            flows[u][lead(units.get(u).yes)] += yes;
            flows[u][lead(units.get(u).no)] += 100 - yes;
        }
        return flows;
    }

    private static BigInteger determinant(BigInteger[][] m, int row, boolean[] used) {
        if (row == m.length) {
            return BigInteger.ONE;
        }
        BigInteger sum = BigInteger.ZERO;
        int sign = 1;
        for (int column = 0; column < m.length; column++) {
            if (!used[column]) {
                used[column] = true;
                BigInteger term = m[row][column].multiply(determinant(m, row + 1, used));
                sum = sign > 0 ? sum.add(term) : sum.subtract(term);
                sign = -sign;
                used[column] = false;
            }
        }
        return sum;
    }

    long whole(int kind) {
        if (kind < 0 || kind > 4) {
            return -1;
        }
        int n = units.size();
        int[][] flows = flows(kind);
        BigInteger[][] m = new BigInteger[n][n];
        for (int i = 0; i < n; i++) {
            for (int j = 0; j < n; j++) {
                m[i][j] = BigInteger.valueOf((i == j ? 100 : 0) - flows[i][j]);
            }
        }
        return determinant(m, 0, new boolean[n]).longValueExact();
    }

    /** Fractions as {numerator, denominator}. */
    private static BigInteger[] minusProduct(BigInteger[] a, BigInteger[] b, BigInteger[] c) {
        BigInteger numerator = a[0].multiply(b[1]).multiply(c[1]).subtract(b[0].multiply(c[0]).multiply(a[1]));
        BigInteger denominator = a[1].multiply(b[1]).multiply(c[1]);
        BigInteger divisor = numerator.gcd(denominator);
        return new BigInteger[] {numerator.divide(divisor), denominator.divide(divisor)};
    }

    long part(int kind, int out) {
        if (kind < 0 || kind > 4 || out < 0 || out > 4) {
            return -1;
        }
        if (units.isEmpty()) {
            return out == 4 ? 1 : 0;
        }
        long whole = whole(kind);
        if (whole == 0) {
            return 0;
        }
        int n = units.size();
        int[][] flows = flows(kind);
        BigInteger[][][] m = new BigInteger[n][n + 1][];
        for (int i = 0; i < n; i++) {
            for (int j = 0; j < n; j++) {
                m[i][j] = new BigInteger[] {BigInteger.valueOf((i == j ? 100 : 0) - flows[i][j]), BigInteger.ONE};
            }
            m[i][n] = new BigInteger[] {BigInteger.valueOf(flows[i][out == 4 ? 20 : 10 + out]), BigInteger.ONE};
        }
        for (int step = 0; step < n; step++) {
            int pivot = step;
            while (m[pivot][step][0].signum() == 0) {
                pivot++;
            }
            BigInteger[][] swap = m[pivot];
            m[pivot] = m[step];
            m[step] = swap;
            BigInteger[] inverse = {m[step][step][1], m[step][step][0]};
            for (int j = 0; j <= n; j++) {
                m[step][j] = minusProduct(new BigInteger[] {BigInteger.ZERO, BigInteger.ONE}, m[step][j],
                    new BigInteger[] {inverse[0].negate(), inverse[1]});
            }
            for (int i = 0; i < n; i++) {
                BigInteger[] factor = m[i][step];
                for (int j = 0; i != step && j <= n; j++) {
                    m[i][j] = minusProduct(m[i][j], factor, m[step][j]);
                }
            }
        }
        BigInteger[] ends = m[0][n];
        BigInteger[] exact = ends[0].multiply(BigInteger.valueOf(whole)).divideAndRemainder(ends[1]);
        if (exact[1].signum() != 0) {
            throw new IllegalStateException("a part that is no whole number");
        }
        return exact[0].longValueExact();
    }

    // Grams and coins.

    boolean inflow(int kind, int grams) {
        if (kind < 0 || kind > 4 || grams < -1 || grams > 1000000) {
            return false;
        }
        byHand[kind] = grams == -1 ? null : grams;
        return true;
    }

    int comes(int kind) {
        if (kind < 0 || kind > 4) {
            return -1;
        }
        if (byHand[kind] != null) {
            return byHand[kind];
        }
        int sum = 0;
        for (int town = 0; town < 5; town++) {
            sum = Math.min(1000000, sum + Math.min(1000000, brought(town, kind)));
        }
        return sum;
    }

    int grams(int out, int kind) {
        if (kind < 0 || kind > 4 || out < 0 || out > 4) {
            return -1;
        }
        if (out == 4) {
            return comes(kind) - grams(0, kind) - grams(1, kind) - grams(2, kind) - grams(3, kind);
        }
        BigInteger whole = BigInteger.valueOf(whole(kind));
        return whole.signum() == 0 ? 0 : BigInteger.valueOf(comes(kind)).multiply(BigInteger.valueOf(part(kind, out))).divide(whole).intValueExact();
    }

    private long total(int out) {
        return (long) grams(out, 0) + grams(out, 1) + grams(out, 2) + grams(out, 3) + grams(out, 4);
    }

    int purity(int bale) {
        if (bale < 0 || bale > 3) {
            return -1;
        }
        long total = total(bale);
        return total == 0 || bales[bale].kind < 0 ? 0 : (int) (100L * grams(bale, bales[bale].kind) / total);
    }

    int earns(int bale) {
        if (bale < 0 || bale > 3) {
            return -1;
        }
        int purity = purity(bale);
        for (int p = purity; p >= 0; p--) {
            for (Grade grade : bales[bale].grades) {
                if (grade.purity == p) {
                    return (int) (total(bale) * grade.price / 1000);
                }
            }
        }
        return 0;
    }

    boolean cost(int coins) {
        if (coins < 0 || coins > 9999) {
            return false;
        }
        cost = coins;
        return true;
    }

    int worth() {
        return earns(0) + earns(1) + earns(2) + earns(3) - (int) (total(4) / 1000) * cost;
    }

    private int[] bestChoice;
    private int bestWorth;

    int best() {
        bestChoice = null;
        tryFrom(0);
        choice = bestChoice;
        return bestWorth;
    }

    private void tryFrom(int unit) {
        if (unit == units.size()) {
            int worth = worth();
            if (bestChoice == null || worth > bestWorth) {
                bestChoice = choice.clone();
                bestWorth = worth;
            }
            return;
        }
        for (int s = 0; s < units.get(unit).settings.size(); s++) {
            choice[unit] = s;
            tryFrom(unit + 1);
        }
    }

    // A buyer's test, by adding bags one at a time.

    private static BigInteger ways(int bags, int drawn) {
        BigInteger[] row = new BigInteger[drawn + 1];
        Arrays.fill(row, BigInteger.ZERO);
        row[0] = BigInteger.ONE;
        for (int bag = 0; bag < bags; bag++) {
            for (int i = drawn; i > 0; i--) {
                row[i] = row[i].add(row[i - 1]);
            }
        }
        return row[drawn];
    }

    int chance(int n, int b, int s, int a, int part) {
        if (n < 1 || n > 30 || b < 0 || b > n || s < 0 || s > n || a < 0 || a > s || part < 0 || part > 1) {
            return -1;
        }
        BigInteger passing = BigInteger.ZERO;
        for (int bad = 0; bad <= a; bad++) {
            passing = passing.add(ways(b, bad).multiply(ways(n - b, s - bad)));
        }
        BigInteger all = ways(n, s);
        return (part == 0 ? passing : all).divide(passing.gcd(all)).intValueExact();
    }

    // Lorries.

    int lorry(int town, int weight, int... sampled) {
        if (town < 0 || town > 4 || weight < 1 || weight > 20000 || lorries.size() == 60
            || Arrays.stream(sampled).anyMatch(g -> g < 0 || g > 1000)) {
            return -1;
        }
        int all = Arrays.stream(sampled).sum();
        int[] loads = Arrays.stream(sampled).map(g -> all == 0 ? 0 : (int) (weight * 1000L * g / all)).toArray();
        lorries.add(new Lorry(town, loads, new boolean[1]));
        return lorries.size() - 1;
    }

    boolean strike(int lorry) {
        if (lorry < 0 || lorry >= lorries.size() || lorries.get(lorry).struck[0]) {
            return false;
        }
        lorries.get(lorry).struck[0] = true;
        return true;
    }

    int brought(int town, int kind) {
        if (town < 0 || town > 4 || kind < 0 || kind > 4) {
            return -1;
        }
        return lorries.stream().filter(l -> l.town == town && !l.struck[0]).mapToInt(l -> l.loads[kind]).sum();
    }

    int share(int town, int kind, int sum) {
        if (brought(town, kind) < 0 || sum < 0 || sum > 10000000) {
            return -1;
        }
        long all = 0;
        for (int t = 0; t < 5; t++) {
            all += brought(t, kind);
        }
        if (all == 0) {
            return 0;
        }
        int[] shares = new int[5];
        long[] rests = new long[5];
        int left = sum;
        for (int t = 0; t < 5; t++) {
            shares[t] = (int) ((long) sum * brought(t, kind) / all);
            rests[t] = (long) sum * brought(t, kind) % all;
            left -= shares[t];
        }
        for (; left > 0; left--) {
            int greatest = 0;
            for (int t = 1; t < 5; t++) {
                greatest = rests[t] > rests[greatest] ? t : greatest;
            }
            shares[greatest]++;
            rests[greatest] = -1;
        }
        return shares[town];
    }

    int about(int what) {
        return switch (what) {
            case 0 -> units.size();
            case 1 -> lorries.size();
            case 2 -> cost;
            case 3 -> tape.length();
            case 10, 11, 12, 13 -> bales[what - 10].grades.size();
            default -> -1;
        };
    }
}
