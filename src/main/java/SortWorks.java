import java.util.Arrays;

/** A works that takes mixed waste apart. The words in capitals in comments are the document's terms. */
public final class SortWorks {
    public static final int NONE = -1;

    private static final int KINDS = 5;
    private static final int UNITS = 5;
    private static final int SETTINGS = 3;
    private static final int BALES = 4;
    private static final int GRADES = 4;
    private static final int TOWNS = 5;
    private static final int LORRIES = 60;
    private static final int TAPE_BYTES = 1200;
    /** What one feed() puts on the TAPE. */
    private static final int FED_BYTES = 20;

    /** BALES and, behind them, the refuse. */
    private static final int OUTS = 5;
    private static final int REFUSE_OUT = 4;

    private static final int HUNDRED = 100;
    private static final int MOST_INFLOW = 1000000;
    private static final int MOST_PRICE = 9999;
    private static final int MOST_COST = 9999;
    private static final int FIRST_COST = 10;
    private static final int MOST_SUM = 10000000;
    private static final int MOST_WEIGHT = 20000;
    private static final int MOST_SAMPLED = 1000;
    private static final int MOST_BAGS = 30;
    /** Euclid's steps on two longs are fewer than 100. */
    private static final int MOST_DIVISIONS = 100;
    private static final int GRAMS_OF_KILOGRAM = 1000;

    /** Three SETTINGS of each of five UNITS. */
    private static final int MOST_CHOICES = 243;

    /** How unit() tells where a way leads: a UNIT's number, or one of these. */
    private static final int LEADS_TO_BALE = 10;
    private static final int LEADS_TO_REFUSE = 20;

    private static final int WHAT_BALE_GRADES = 10;

    private Plan told = new Plan();
    private final Reader reader = new Reader();
    private int faultNumber;
    private int faultPlace = NONE;
    private final int[] chosen = new int[UNITS];
    private final int[] tried = new int[UNITS];
    private final int[] byHand = new int[KINDS];
    private final int[] coming = new int[KINDS];
    private final Ends ends = new Ends();
    private final Heaps heaps = new Heaps();
    private final Yard yard = new Yard();
    private int costOfKilogram = FIRST_COST;

    public SortWorks() {
        Arrays.fill(byHand, NONE);
    }

    public int feed(int a, int b, int c, int d, int e) {
        Tape tape = reader.tape;
        if (tape.length + FED_BYTES > TAPE_BYTES) {
            return NONE;
        }
        tape.put(a);
        tape.put(b);
        tape.put(c);
        tape.put(d);
        tape.put(e);
        return tape.length;
    }

    public int end(int n) {
        if (n < 0 || n > reader.tape.length) {
            return NONE;
        }
        reader.tape.length = n;
        return n;
    }

    public int plan() {
        reader.read();
        faultNumber = reader.fault;
        faultPlace = reader.faultPlace;
        if (faultNumber != 0) {
            return NONE;
        }
        Plan former = told;
        told = reader.draft;
        reader.draft = former;
        reader.tape.length = 0;
        Arrays.fill(chosen, 0);
        return told.units;
    }

    public int fault(int what) {
        if (what == 0) {
            return faultNumber;
        }
        return what == 1 ? faultPlace : NONE;
    }

    public int unit(int unit, int what) {
        if (!isUnit(unit)) {
            return NONE;
        }
        switch (what) {
            case 0:
                return told.settings[unit];
            case 1:
                return told.yesLeads[unit];
            case 2:
                return told.noLeads[unit];
            case 3:
                return chosen[unit];
            default:
                return NONE;
        }
    }

    public int setting(int unit, int setting, int kind) {
        if (!isSetting(unit, setting) || !isKind(kind)) {
            return NONE;
        }
        return told.byYes(unit, setting, kind);
    }

    public boolean choose(int unit, int setting) {
        if (!isSetting(unit, setting)) {
            return false;
        }
        chosen[unit] = setting;
        return true;
    }

    public long whole(int kind) {
        if (!isKind(kind)) {
            return NONE;
        }
        ends.solve(told, chosen, kind);
        return ends.wholeOfAll;
    }

    public long part(int kind, int out) {
        if (!isKind(kind) || !isOut(out)) {
            return NONE;
        }
        ends.solve(told, chosen, kind);
        return ends.parts[out];
    }

    public boolean inflow(int kind, int grams) {
        if (!isKind(kind) || grams < NONE || grams > MOST_INFLOW) {
            return false;
        }
        byHand[kind] = grams;
        return true;
    }

    public int comes(int kind) {
        return isKind(kind) ? comingOf(kind) : NONE;
    }

    public int grams(int out, int kind) {
        if (!isOut(out) || !isKind(kind)) {
            return NONE;
        }
        sortByChoice();
        return heaps.held[out * KINDS + kind];
    }

    public int purity(int bale) {
        if (!isBale(bale)) {
            return NONE;
        }
        sortByChoice();
        return heaps.purityOf(told, bale);
    }

    public int earns(int bale) {
        if (!isBale(bale)) {
            return NONE;
        }
        sortByChoice();
        return heaps.earningsOf(told, bale);
    }

    public boolean cost(int coins) {
        if (coins < 0 || coins > MOST_COST) {
            return false;
        }
        costOfKilogram = coins;
        return true;
    }

    public int worth() {
        sortByChoice();
        return heaps.worthOf(told, costOfKilogram);
    }

    public int best() {
        gatherInflow();
        Arrays.fill(tried, 0);
        int greatest = 0;
        boolean more = true;
        for (int count = 0; more && count < MOST_CHOICES; count++) {
            heaps.sort(told, tried, coming, ends);
            int now = heaps.worthOf(told, costOfKilogram);
            if (count == 0 || now > greatest) {
                greatest = now;
                System.arraycopy(tried, 0, chosen, 0, UNITS);
            }
            more = turnTried();
        }
        return greatest;
    }

    /** The last UNIT turns fastest, so that of like CHOICES the first is met first. */
    private boolean turnTried() {
        for (int unit = told.units - 1; unit >= 0; unit--) {
            if (tried[unit] + 1 < told.settings[unit]) {
                tried[unit]++;
                return true;
            }
            tried[unit] = 0;
        }
        return false;
    }

    public int chance(int n, int b, int s, int a, int part) {
        if (n < 1 || n > MOST_BAGS || b < 0 || b > n || s < 0 || s > n || a < 0 || a > s) {
            return NONE;
        }
        if (part != 0 && part != 1) {
            return NONE;
        }
        long all = waysToDraw(n, s);
        long passing = 0;
        for (int bad = 0; bad <= a; bad++) {
            passing += waysToDraw(b, bad) * waysToDraw(n - b, s - bad);
        }
        long divisor = greatestDivisor(passing, all);
        if (divisor < 1) {
            return NONE;
        }
        return (int) ((part == 0 ? passing : all) / divisor);
    }

    private static long waysToDraw(int bags, int drawn) {
        if (drawn < 0 || drawn > bags) {
            return 0;
        }
        long ways = 1;
        for (int bag = 1; bag <= drawn; bag++) {
            ways = ways * (bags - drawn + bag) / bag;
        }
        return ways;
    }

    private static long greatestDivisor(long one, long other) {
        long greater = one;
        long lesser = other;
        for (int step = 0; lesser != 0 && step < MOST_DIVISIONS; step++) {
            long rest = greater % lesser;
            greater = lesser;
            lesser = rest;
        }
        return greater;
    }

    public int lorry(int town, int weight, int a, int b, int c, int d, int e) {
        if (!isTown(town) || weight < 1 || weight > MOST_WEIGHT) {
            return NONE;
        }
        if (!isSampled(a) || !isSampled(b) || !isSampled(c) || !isSampled(d) || !isSampled(e)) {
            return NONE;
        }
        int[] sampled = yard.sampled;
        sampled[0] = a;
        sampled[1] = b;
        sampled[2] = c;
        sampled[3] = d;
        sampled[4] = e;
        return yard.bring(town, weight);
    }

    public boolean strike(int lorry) {
        return yard.strikeOff(lorry);
    }

    public int brought(int town, int kind) {
        if (!isTown(town) || !isKind(kind)) {
            return NONE;
        }
        return yard.ofTowns[town * KINDS + kind];
    }

    public int share(int town, int kind, int sum) {
        if (!isTown(town) || !isKind(kind) || sum < 0 || sum > MOST_SUM) {
            return NONE;
        }
        return yard.shareOf(town, kind, sum);
    }

    public int about(int what) {
        switch (what) {
            case 0:
                return told.units;
            case 1:
                return yard.count;
            case 2:
                return costOfKilogram;
            case 3:
                return reader.tape.length;
            default:
                break;
        }
        if (what >= WHAT_BALE_GRADES && what < WHAT_BALE_GRADES + BALES) {
            return told.grades[what - WHAT_BALE_GRADES];
        }
        return NONE;
    }

    private boolean isUnit(int unit) {
        return unit >= 0 && unit < told.units;
    }

    private boolean isSetting(int unit, int setting) {
        return isUnit(unit) && setting >= 0 && setting < told.settings[unit];
    }

    private static boolean isKind(int kind) {
        return kind >= 0 && kind < KINDS;
    }

    private static boolean isOut(int out) {
        return out >= 0 && out < OUTS;
    }

    private static boolean isBale(int bale) {
        return bale >= 0 && bale < BALES;
    }

    private static boolean isTown(int town) {
        return town >= 0 && town < TOWNS;
    }

    private static boolean isSampled(int grams) {
        return grams >= 0 && grams <= MOST_SAMPLED;
    }

    private int comingOf(int kind) {
        if (byHand[kind] != NONE) {
            return byHand[kind];
        }
        return (int) Math.min(yard.ofAll(kind), MOST_INFLOW);
    }

    private void gatherInflow() {
        for (int kind = 0; kind < KINDS; kind++) {
            coming[kind] = comingOf(kind);
        }
    }

    private void sortByChoice() {
        gatherInflow();
        heaps.sort(told, chosen, coming, ends);
    }

    /** What a text without a FAULT has told. */
    private static final class Plan {
        private int units;
        private final int[] settings = new int[UNITS];
        private final int[] yesLeads = new int[UNITS];
        private final int[] noLeads = new int[UNITS];
        private final int[] percents = new int[UNITS * SETTINGS * KINDS];
        private final int[] grades = new int[BALES];
        private final int[] gradeKinds = new int[BALES];
        private final int[] gradePurities = new int[BALES * GRADES];
        private final int[] gradePrices = new int[BALES * GRADES];

        private void clear() {
            units = 0;
            Arrays.fill(settings, 0);
            Arrays.fill(percents, 0);
            Arrays.fill(grades, 0);
        }

        private int byYes(int unit, int setting, int kind) {
            return percents[(unit * SETTINGS + setting) * KINDS + kind];
        }

        private boolean hasGrade(int bale, int purity) {
            for (int grade = 0; grade < grades[bale]; grade++) {
                if (gradePurities[bale * GRADES + grade] == purity) {
                    return true;
                }
            }
            return false;
        }

        private void addGrade(int bale, int kind, int purity, int price) {
            if (grades[bale] >= GRADES) {
                return;
            }
            int place = bale * GRADES + grades[bale];
            gradeKinds[bale] = kind;
            gradePurities[place] = purity;
            gradePrices[place] = price;
            grades[bale]++;
        }

        private void addSetting(int unit, int[] values, int from) {
            if (settings[unit] >= SETTINGS) {
                return;
            }
            int place = (unit * SETTINGS + settings[unit]) * KINDS;
            System.arraycopy(values, from, percents, place, KINDS);
            settings[unit]++;
        }
    }

    /** The bytes that were fed, and their TOKENS, one at a time. */
    private static final class Tape {
        /** Types of TOKENS: the first seven are places in RESERVED. */
        private static final int UNIT = 0;
        private static final int YES = 1;
        private static final int NO = 2;
        private static final int SET = 3;
        private static final int GRADE = 4;
        private static final int BALE = 5;
        private static final int REFUSE = 6;
        private static final int NAME = 7;
        private static final int NUMBER = 8;
        private static final int SIGN = 9;
        private static final int END = 10;
        private static final int BAD = 11;

        /** unit yes no set grade bale refuse: a word is held as its bytes, the last one lowest. */
        private static final long[] RESERVED = {
            0x756e6974L, 0x796573L, 0x6e6fL, 0x736574L, 0x6772616465L, 0x62616c65L, 0x726566757365L
        };

        private static final int MOST_LETTERS = 8;
        private static final int MOST_DIGITS = 5;

        private final byte[] bytes = new byte[TAPE_BYTES];
        private int length;
        private int next;
        private int type;
        private int place;
        private int formerPlace;
        private long word;
        private int number;

        /** Four bytes, the highest first. */
        private void put(int fed) {
            for (int shift = 24; shift >= 0 && length < TAPE_BYTES; shift -= 8) {
                bytes[length] = (byte) (fed >> shift);
                length++;
            }
        }

        private void start() {
            next = 0;
            place = 0;
            advance();
        }

        private void advance() {
            formerPlace = place;
            while (next < length && (bytes[next] == ' ' || bytes[next] == '\n')) {
                next++;
            }
            place = next;
            if (next >= length) {
                type = END;
            } else if (isLetter(bytes[next])) {
                scanWord();
            } else if (isDigit(bytes[next])) {
                scanNumber();
            } else {
                type = bytes[next] == ';' ? SIGN : BAD;
                next++;
            }
        }

        private void scanWord() {
            word = 0;
            while (next < length && isLetter(bytes[next])) {
                word = word << 8 | bytes[next];
                next++;
            }
            type = next - place > MOST_LETTERS ? BAD : NAME;
            for (int reserved = 0; reserved < RESERVED.length && type == NAME; reserved++) {
                if (RESERVED[reserved] == word) {
                    type = reserved;
                }
            }
        }

        private void scanNumber() {
            number = 0;
            while (next < length && isDigit(bytes[next])) {
                number = number * 10 + (bytes[next] - '0');
                next++;
            }
            boolean letterBehind = next < length && isLetter(bytes[next]);
            type = letterBehind || next - place > MOST_DIGITS ? BAD : NUMBER;
        }

        private static boolean isLetter(byte sign) {
            return sign >= 'a' && sign <= 'z';
        }

        private static boolean isDigit(byte sign) {
            return sign >= '0' && sign <= '9';
        }
    }

    /** Reads the TAPE into a draft of a Plan, up to its first FAULT. */
    private static final class Reader {
        private static final int NO_TOKEN_FAULT = 1;
        private static final int STAND_FAULT = 2;
        private static final int TOLD_FAULT = 3;
        private static final int NUMBER_FAULT = 4;
        private static final int GRADE_FAULT = 5;
        private static final int NAME_FAULT = 6;

        /** The shortest line, "set a0 0 0 0 0;", has 15 bytes; a UNIT's line has 18 for 3 NAMES. */
        private static final int MOST_SETS = 80;
        private static final int MOST_NAMES = 96;

        /** A way that leads to a NAME, till all NAMES are known. */
        private static final int LEADS_TO_NAME = 100;

        private int fault;
        private int faultPlace;
        private final Tape tape = new Tape();
        private Plan draft = new Plan();
        private final long[] names = new long[MOST_NAMES];
        private final int[] namePlaces = new int[MOST_NAMES];
        private final int[] nameUnits = new int[MOST_NAMES];
        private final int[] nameSettings = new int[MOST_NAMES];
        private int nameCount;
        private final int[] setNames = new int[MOST_SETS];
        private final int[] setValues = new int[MOST_SETS * KINDS];
        private int setCount;

        private void read() {
            draft.clear();
            fault = 0;
            faultPlace = NONE;
            nameCount = 0;
            setCount = 0;
            tape.start();
            for (int line = 0; line <= TAPE_BYTES && fault == 0 && tape.type != Tape.END; line++) {
                if (tape.type == Tape.UNIT) {
                    readUnit();
                } else if (tape.type == Tape.SET) {
                    readSet();
                } else if (tape.type == Tape.GRADE) {
                    readGrade();
                } else {
                    refuseToken();
                }
            }
            findNameless();
            if (fault == 0) {
                settle();
            }
        }

        private void readUnit() {
            if (draft.units >= UNITS) {
                refuseToken();
                return;
            }
            tape.advance();
            int name = takeName();
            if (fault == 0 && nameUnits[name] != NONE) {
                fail(TOLD_FAULT, tape.formerPlace);
            }
            take(Tape.YES);
            int yes = takeOut();
            take(Tape.NO);
            int no = takeOut();
            take(Tape.SIGN);
            if (fault == 0) {
                nameUnits[name] = draft.units;
                draft.yesLeads[draft.units] = yes;
                draft.noLeads[draft.units] = no;
                draft.units++;
            }
        }

        private void readSet() {
            tape.advance();
            int name = takeName();
            if (fault == 0 && (nameSettings[name] >= SETTINGS || setCount >= MOST_SETS)) {
                fail(STAND_FAULT, tape.formerPlace);
            }
            for (int kind = 0; kind < KINDS && fault == 0; kind++) {
                setValues[setCount * KINDS + kind] = takeNumber(HUNDRED);
            }
            take(Tape.SIGN);
            if (fault == 0) {
                setNames[setCount] = name;
                nameSettings[name]++;
                setCount++;
            }
        }

        private void readGrade() {
            tape.advance();
            int bale = takeNumber(BALES - 1);
            if (fault == 0 && draft.grades[bale] >= GRADES) {
                fail(STAND_FAULT, tape.formerPlace);
            }
            int kind = takeNumber(KINDS - 1);
            if (fault == 0 && draft.grades[bale] > 0 && draft.gradeKinds[bale] != kind) {
                fail(GRADE_FAULT, tape.formerPlace);
            }
            int purity = takeNumber(HUNDRED);
            if (fault == 0 && draft.hasGrade(bale, purity)) {
                fail(GRADE_FAULT, tape.formerPlace);
            }
            int price = takeNumber(MOST_PRICE);
            take(Tape.SIGN);
            if (fault == 0) {
                draft.addGrade(bale, kind, purity, price);
            }
        }

        private int takeOut() {
            if (tape.type == Tape.REFUSE) {
                take(Tape.REFUSE);
                return LEADS_TO_REFUSE;
            }
            if (tape.type == Tape.BALE) {
                take(Tape.BALE);
                return LEADS_TO_BALE + takeNumber(BALES - 1);
            }
            return LEADS_TO_NAME + takeName();
        }

        private void take(int type) {
            if (accepts(type)) {
                tape.advance();
            }
        }

        /** From 0 to most, whatever comes: it may be used as an index. */
        private int takeNumber(int most) {
            if (!accepts(Tape.NUMBER)) {
                return 0;
            }
            int number = tape.number;
            if (number > most) {
                fail(NUMBER_FAULT, tape.place);
                return 0;
            }
            tape.advance();
            return number;
        }

        /** A NAME's number, 0 behind a FAULT: it may be used as an index. */
        private int takeName() {
            if (!accepts(Tape.NAME)) {
                return 0;
            }
            int name = 0;
            while (name < nameCount && names[name] != tape.word) {
                name++;
            }
            if (name >= MOST_NAMES) {
                fail(STAND_FAULT, tape.place);
                return 0;
            }
            if (name == nameCount) {
                names[name] = tape.word;
                namePlaces[name] = tape.place;
                nameUnits[name] = NONE;
                nameSettings[name] = 0;
                nameCount++;
            }
            tape.advance();
            return name;
        }

        private boolean accepts(int type) {
            if (fault == 0 && tape.type != type) {
                refuseToken();
            }
            return fault == 0;
        }

        private void refuseToken() {
            fail(tape.type == Tape.BAD ? NO_TOKEN_FAULT : STAND_FAULT, tape.place);
        }

        private void fail(int which, int place) {
            if (fault == 0) {
                fault = which;
                faultPlace = place;
            }
        }

        /** NAMES stand in the order of their first places, so the first without a UNIT is the FAULT. */
        private void findNameless() {
            for (int name = 0; name < nameCount && fault == 0; name++) {
                if (nameUnits[name] == NONE) {
                    fail(NAME_FAULT, namePlaces[name]);
                }
            }
        }

        private void settle() {
            for (int set = 0; set < setCount; set++) {
                draft.addSetting(nameUnits[setNames[set]], setValues, set * KINDS);
            }
            for (int unit = 0; unit < draft.units; unit++) {
                draft.yesLeads[unit] = settled(draft.yesLeads[unit]);
                draft.noLeads[unit] = settled(draft.noLeads[unit]);
                // clear() left a row of zeros: the one SETTING of a UNIT that was told none
                draft.settings[unit] = Math.max(draft.settings[unit], 1);
            }
        }

        private int settled(int lead) {
            return lead >= LEADS_TO_NAME ? nameUnits[lead - LEADS_TO_NAME] : lead;
        }
    }

    /** Where a gram of a KIND ends, as parts of a whole. */
    private static final class Ends {
        private long wholeOfAll;
        private final long[] parts = new long[OUTS];
        private final int[] rows = new int[UNITS * UNITS];
        private final int[] outs = new int[UNITS * OUTS];
        private final long[] minors = new long[1 << UNITS];

        /**
         * By Cramer's rule: the whole is the determinant of the rows, a part the determinant with
         * what goes out there in the place of column 0, since a gram starts at UNIT 0. Both are
         * expanded by column 0, so they share the minors of the other columns.
         */
        private void solve(Plan plan, int[] choice, int kind) {
            Arrays.fill(parts, 0);
            if (plan.units < 1) {
                wholeOfAll = 1;
                parts[REFUSE_OUT] = 1;
                return;
            }
            layRows(plan, choice, kind);
            findMinors(plan.units);
            wholeOfAll = 0;
            for (int row = 0; row < plan.units; row++) {
                wholeOfAll += rows[row * UNITS] * cofactor(row, plan.units);
            }
            if (wholeOfAll == 0) {
                return;
            }
            for (int row = 0; row < plan.units; row++) {
                long cofactor = cofactor(row, plan.units);
                for (int out = 0; out < OUTS; out++) {
                    parts[out] += outs[row * OUTS + out] * cofactor;
                }
            }
        }

        private void layRows(Plan plan, int[] choice, int kind) {
            Arrays.fill(rows, 0);
            Arrays.fill(outs, 0);
            for (int unit = 0; unit < plan.units; unit++) {
                int yes = plan.byYes(unit, choice[unit], kind);
                rows[unit * UNITS + unit] += HUNDRED;
                send(unit, plan.yesLeads[unit], yes);
                send(unit, plan.noLeads[unit], HUNDRED - yes);
            }
        }

        private void send(int unit, int lead, int percent) {
            if (lead >= LEADS_TO_REFUSE) {
                outs[unit * OUTS + REFUSE_OUT] += percent;
            } else if (lead >= LEADS_TO_BALE) {
                outs[unit * OUTS + lead - LEADS_TO_BALE] += percent;
            } else {
                rows[unit * UNITS + lead] -= percent;
            }
        }

        /** Of each set of rows (bits), as many as it has, the columns from 1 on. */
        private void findMinors(int units) {
            int all = (1 << units) - 1;
            minors[0] = 1;
            for (int set = 1; set < all; set++) {
                minors[set] = minorOf(set, Integer.bitCount(set), units);
            }
        }

        /** Expanded by its last column: the sign turns with each row below. */
        private long minorOf(int set, int column, int units) {
            long sum = 0;
            long sign = 1;
            for (int row = units - 1; row >= 0; row--) {
                int bit = 1 << row;
                if ((set & bit) != 0) {
                    sum += sign * rows[row * UNITS + column] * minors[set - bit];
                    sign = -sign;
                }
            }
            return sum;
        }

        private long cofactor(int row, int units) {
            long minor = minors[(1 << units) - 1 - (1 << row)];
            return row % 2 == 0 ? minor : -minor;
        }
    }

    /** What an INFLOW becomes by a CHOICE: grams in BALES and refuse, and what they bring. */
    private static final class Heaps {
        private final int[] held = new int[OUTS * KINDS];
        private final int[] totals = new int[OUTS];

        private void sort(Plan plan, int[] choice, int[] coming, Ends ends) {
            Arrays.fill(held, 0);
            Arrays.fill(totals, 0);
            for (int kind = 0; kind < KINDS; kind++) {
                if (coming[kind] > 0) {
                    ends.solve(plan, choice, kind);
                    split(kind, coming[kind], ends);
                }
            }
        }

        private void split(int kind, int coming, Ends ends) {
            int left = coming;
            for (int bale = 0; bale < BALES && ends.wholeOfAll > 0; bale++) {
                int grams = (int) (coming * ends.parts[bale] / ends.wholeOfAll);
                put(bale, kind, grams);
                left -= grams;
            }
            put(REFUSE_OUT, kind, left);
        }

        private void put(int out, int kind, int grams) {
            held[out * KINDS + kind] = grams;
            totals[out] += grams;
        }

        private int purityOf(Plan plan, int bale) {
            if (totals[bale] < 1 || plan.grades[bale] < 1) {
                return 0;
            }
            long pure = held[bale * KINDS + plan.gradeKinds[bale]];
            return (int) (pure * HUNDRED / totals[bale]);
        }

        private int earningsOf(Plan plan, int bale) {
            int own = purityOf(plan, bale);
            int greatest = NONE;
            long price = 0;
            for (int grade = 0; grade < plan.grades[bale]; grade++) {
                int purity = plan.gradePurities[bale * GRADES + grade];
                if (purity <= own && purity > greatest) {
                    greatest = purity;
                    price = plan.gradePrices[bale * GRADES + grade];
                }
            }
            return (int) (totals[bale] * price / GRAMS_OF_KILOGRAM);
        }

        private int worthOf(Plan plan, int costOfKilogram) {
            int coins = 0;
            for (int bale = 0; bale < BALES; bale++) {
                coins += earningsOf(plan, bale);
            }
            return coins - totals[REFUSE_OUT] / GRAMS_OF_KILOGRAM * costOfKilogram;
        }
    }

    /** LORRIES, and what is SHARED by what they brought. */
    private static final class Yard {
        private int count;
        private final int[] sampled = new int[KINDS];
        private final int[] towns = new int[LORRIES];
        private final int[] loads = new int[LORRIES * KINDS];
        private final boolean[] struck = new boolean[LORRIES];
        private final int[] ofTowns = new int[TOWNS * KINDS];

        /** A LORRY with the grams that stand in sampled. */
        private int bring(int town, int weight) {
            if (count >= LORRIES) {
                return NONE;
            }
            int all = 0;
            for (int kind = 0; kind < KINDS; kind++) {
                all += sampled[kind];
            }
            long weightInGrams = (long) weight * GRAMS_OF_KILOGRAM;
            for (int kind = 0; kind < KINDS; kind++) {
                int load = all < 1 ? 0 : (int) (weightInGrams * sampled[kind] / all);
                loads[count * KINDS + kind] = load;
                ofTowns[town * KINDS + kind] += load;
            }
            towns[count] = town;
            count++;
            return count - 1;
        }

        private boolean strikeOff(int lorry) {
            if (lorry < 0 || lorry >= count || struck[lorry]) {
                return false;
            }
            struck[lorry] = true;
            for (int kind = 0; kind < KINDS; kind++) {
                ofTowns[towns[lorry] * KINDS + kind] -= loads[lorry * KINDS + kind];
            }
            return true;
        }

        private long ofAll(int kind) {
            long all = 0;
            for (int town = 0; town < TOWNS; town++) {
                all += ofTowns[town * KINDS + kind];
            }
            return all;
        }

        private int shareOf(int town, int kind, int sum) {
            long all = ofAll(kind);
            if (all < 1) {
                return 0;
            }
            long mine = (long) sum * ofTowns[town * KINDS + kind];
            long left = sum;
            int before = 0;
            for (int other = 0; other < TOWNS; other++) {
                long due = (long) sum * ofTowns[other * KINDS + kind];
                left -= due / all;
                if (due % all > mine % all || due % all == mine % all && other < town) {
                    before++;
                }
            }
            return (int) (mine / all) + (before < left ? 1 : 0);
        }
    }
}
