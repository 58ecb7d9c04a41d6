import java.math.BigInteger;
import java.util.Arrays;

/**
 * The boundary cases of a CHOICE, what comes, what it earns and TESTS (parts 2 and 3 of the terms,
 * promises 8 to 19). Each method holds one sentence of the document, which stands above it.
 */
public final class CallBoundsTest {
    private static final int MIN = Integer.MIN_VALUE;
    private static final int MAX = Integer.MAX_VALUE;
    /** Numbers that are none of anything, some of which wrap round to small ones when multiplied. */
    private static final int[] FAR = {MIN, MAX, MIN + 1, MIN + 4, 1 << 16, 1 << 29, 1 << 30, -(1 << 30), -5, -2, -1};
    private static final Check check = new Check("CallBoundsTest");
    private static final String RING =
        "unit drum yes mag no jet; unit mag yes bale 0 no refuse; unit jet yes bale 1 no drum;"
        + "set drum 50 0 100 0 0; set mag 0 0 90 0 0; set mag 0 0 100 10 0; set jet 80 50 0 0 0;"
        + "grade 0 2 90 100; grade 0 2 50 40; grade 1 0 80 200;";

    public static void main(String[] args) {
        kindsThereAre();
        outsThereAre();
        firstSettingsAtFirst();
        settingsToChoose();
        choiceOfAnotherSetting();
        wholeWithoutUnits();
        wholeOfMost();
        endlessKinds();
        unitZeroFirst();
        inflowByHand();
        inflowByHandOfNothing();
        gramsCut();
        endlessKindIsRefuse();
        mostGrams();
        purityCut();
        purityOfNothing();
        earnsCut();
        earnsByTheGreatestGrade();
        worthOfWholeKilograms();
        worthBelowNought();
        costs();
        bestOfLikeOnes();
        bestWithoutUnits();
        bestOfAllChoices();
        chancesThatCanBe();
        chancesInLowestTerms();
        chancesOfTheGreatest();
        allChances();
        check.finish();
    }

    private static SortWorks planned(String text) {
        SortWorks x = new SortWorks();
        check.due("plan() of " + text, Check.plan(x, text) >= 0, true);
        return x;
    }

    // "KINDS of stuff are 0 .. 4."
    private static void kindsThereAre() {
        SortWorks x = planned(RING);
        for (int kind = 0; kind < 5; kind++) {
            boolean is = x.setting(0, 0, kind) >= 0 && x.whole(kind) >= 0 && x.part(kind, 0) >= 0 && x.comes(kind) >= 0
                && x.grams(0, kind) >= 0 && x.brought(0, kind) >= 0 && x.share(0, kind, 0) >= 0 && x.inflow(kind, 0);
            check.due("kind " + kind, is, true);
        }
        for (int kind : wrongs(5)) {
            check.due("setting", x.setting(0, 0, kind), -1);
            check.due("whole", x.whole(kind), -1);
            check.due("part", x.part(kind, 0), -1);
            check.due("comes", x.comes(kind), -1);
            check.due("grams", x.grams(0, kind), -1);
            check.due("brought", x.brought(0, kind), -1);
            check.due("share", x.share(0, kind, 0), -1);
            check.due("inflow", x.inflow(kind, 0), false);
        }
    }

    private static int[] wrongs(int firstAbove) {
        int[] wrongs = Arrays.copyOf(FAR, FAR.length + 2);
        wrongs[FAR.length] = firstAbove;
        wrongs[FAR.length + 1] = firstAbove + 1;
        return wrongs;
    }

    // "a BALE (0 .. 3) or the refuse (4); NONE likewise"; "NONE if one can't be"; "NONE if there is none such"
    private static void outsThereAre() {
        SortWorks x = planned(RING);
        SortWorks empty = new SortWorks();
        for (int out = 0; out < 5; out++) {
            check.due("part(0, " + out + ")", x.part(0, out) >= 0, true);
            check.due("grams(" + out + ", 0)", x.grams(out, 0), 0);
            check.due("purity(" + out + ")", x.purity(out), out < 4 ? 0 : -1);
            check.due("earns(" + out + ")", x.earns(out), out < 4 ? 0 : -1);
        }
        for (int out : wrongs(5)) {
            check.due("part(0, " + out + ")", x.part(0, out), -1);
            check.due("part(3, " + out + ") of an endless kind", x.part(3, out), -1);
            check.due("part(0, " + out + ") without units", empty.part(0, out), -1);
            check.due("grams(" + out + ", 0)", x.grams(out, 0), -1);
            check.due("purity(" + out + ")", x.purity(out), -1);
            check.due("earns(" + out + ")", x.earns(out), -1);
        }
    }

    // "a CHOICE of one SETTING of each UNIT (the first ones at first)"
    private static void firstSettingsAtFirst() {
        SortWorks x = planned(RING);
        for (int unit = 0; unit < 3; unit++) {
            check.due("unit(" + unit + ", 3)", x.unit(unit, 3), 0);
        }
        x.choose(1, 1);
        check.due("chosen", x.unit(1, 3), 1);
        Check.plan(x, RING);
        check.due("the first again", x.unit(1, 3), 0);
        check.due("part(2, 0)", x.part(2, 0), 900000);
    }

    // "The CHOICE has a SETTING of a UNIT: true; false, doing nothing, if there is none such."
    private static void settingsToChoose() {
        int[] settings = {1, 2, 1};
        for (int unit = 0; unit < 3; unit++) {
            SortWorks x = planned(RING);
            for (int setting = 0; setting < settings[unit]; setting++) {
                check.due("choose(" + unit + ", " + setting + ")", x.choose(unit, setting), true);
                check.due("unit(" + unit + ", 3)", x.unit(unit, 3), setting);
            }
            for (int setting : wrongs(settings[unit])) {
                check.due("choose(" + unit + ", " + setting + ")", x.choose(unit, setting), false);
                check.due("unit(" + unit + ", 3)", x.unit(unit, 3), settings[unit] - 1);
            }
        }
        SortWorks y = planned(RING);
        for (int unit : wrongs(3)) {
            check.due("choose(" + unit + ", 0)", y.choose(unit, 0), false);
        }
        check.due("choose(0, 0) without units", new SortWorks().choose(0, 0), false);
        SortWorks full = planned("unit a yes a no a;set a 1 1 1 1 1;set a 2 2 2 2 2;set a 3 3 3 3 3;unit b yes a no a;unit c yes a no a;"
            + "unit d yes a no a;unit e yes bale 0 no refuse;set e 1 1 1 1 1;set e 2 2 2 2 2;set e 3 3 3 3 3;");
        check.due("the last of all", full.choose(4, 2), true);
        check.due("one more", full.choose(4, 3), false);
        check.due("one unit more", full.choose(5, 0), false);
        check.due("unit(4, 3)", full.unit(4, 3), 2);
    }

    /** Only the UNIT that is told has another SETTING. */
    private static void choiceOfAnotherSetting() {
        SortWorks x = planned("unit a yes bale 0 no b;unit b yes bale 1 no c;unit c yes bale 2 no refuse;set a 10 0 0 0 0;set a 20 0 0 0 0;"
            + "set b 10 0 0 0 0;set b 20 0 0 0 0;set c 10 0 0 0 0;set c 20 0 0 0 0;");
        for (int choice = 0; choice < 8; choice++) {
            for (int unit = 0; unit < 3; unit++) {
                x.choose(unit, choice >> unit & 1);
            }
            int a = 10 + 10 * (choice & 1);
            int b = 10 + 10 * (choice >> 1 & 1);
            int c = 10 + 10 * (choice >> 2);
            check.due("part(0, 0)", x.part(0, 0), a * 10000);
            check.due("part(0, 1)", x.part(0, 1), (100 - a) * b * 100);
            check.due("part(0, 2)", x.part(0, 2), (100 - a) * (100 - b) * c);
            check.due("part(0, 4)", x.part(0, 4), (100 - a) * (100 - b) * (100 - c));
        }
    }

    // "(0: ENDLESS; 1 without UNITS)"; "(0 if it is ENDLESS, or without UNITS, but 1 of the refuse then)"
    private static void wholeWithoutUnits() {
        SortWorks x = new SortWorks();
        SortWorks endless = planned("unit a yes a no a;");
        for (int kind = 0; kind < 5; kind++) {
            check.due("whole(" + kind + ")", x.whole(kind), 1);
            check.due("whole of an endless kind", endless.whole(kind), 0);
            for (int out = 0; out < 5; out++) {
                check.due("part(" + kind + ", " + out + ")", x.part(kind, out), out == 4 ? 1 : 0);
                check.due("part of an endless kind", endless.part(kind, out), 0);
            }
        }
        x.inflow(2, 1000000);
        check.due("all is refuse", x.grams(4, 2), 1000000);
        check.due("nothing is in a bale", x.grams(3, 2), 0);
    }

    // "the whole is the determinant of 100 on the diagonal less what goes from UNIT to UNIT (.. all UNITS ..)"
    private static void wholeOfMost() {
        String[] names = {"a", "b", "c", "d", "e"};
        long whole = 1;
        String text = "";
        for (int units = 1; units <= 5; units++) {
            text += "unit " + names[units - 1] + " yes bale 0 no refuse;";
            whole *= 100;
            SortWorks x = planned(text);
            check.due("whole of " + units, x.whole(0), whole);
            check.due("part of " + units, x.part(0, 4), whole);
            check.due("no part", x.part(0, 0), 0);
        }
        // a ring of five: all but one of a hundred goes round, at each of them
        SortWorks ring = planned("unit a yes b no bale 0;unit b yes c no bale 1;unit c yes d no bale 2;unit d yes e no bale 3;"
            + "unit e yes a no refuse;set a 99 100 100 100 0;set b 99 100 100 100 0;set c 99 100 0 100 0;set d 99 100 100 100 0;set e 99 99 0 100 0;");
        check.due("a whole of rings", ring.whole(0), 10000000000L - 9509900499L);
        check.due("a part of rings", ring.part(0, 0), 100000000);
        check.due("a part of rings", ring.part(0, 3), 99L * 99 * 99 * 100);
        check.due("a part of rings", ring.part(0, 4), 99L * 99 * 99 * 99);
        check.due("one of a hundred gets out", ring.whole(1), 100000000);
        check.due("all of it by the last", ring.part(1, 4), 100000000);
        check.due("out at the third", ring.part(2, 2), 10000000000L);
        check.due("a ring without an end", ring.whole(3), 0);
        check.due("out at the first", ring.part(4, 0), 10000000000L);
        // both ways of a UNIT to itself, or to the same place, are added up
        SortWorks same = planned("unit a yes b no b;unit b yes a no bale 0;set a 30 30 30 30 30;set b 1 0 99 100 50;");
        check.due("whole of both ways", same.whole(0), 9900);
        check.due("whole of both ways", same.whole(1), 10000);
        check.due("whole of both ways", same.whole(2), 100);
        check.due("whole of both ways", same.whole(3), 0);
        check.due("part of both ways", same.part(4, 0), 5000);
        SortWorks self = planned("unit a yes a no bale 2;set a 0 1 50 99 100;");
        int[] wholes = {100, 99, 50, 1, 0};
        for (int kind = 0; kind < 5; kind++) {
            check.due("round to itself", self.whole(kind), wholes[kind]);
            check.due("then out", self.part(kind, 2), wholes[kind]);
        }
    }

    // "If it is 0, the CHOICE is ENDLESS for the KIND: something goes round for ever."
    private static void endlessKinds() {
        SortWorks x = planned("unit a yes b no bale 0;unit b yes a no bale 1;set a 100 100 99 0 0;set b 100 99 100 100 0;set b 0 0 0 0 100;");
        long[] wholes = {0, 100, 100, 10000, 10000};
        for (int kind = 0; kind < 5; kind++) {
            check.due("whole(" + kind + ")", x.whole(kind), wholes[kind]);
        }
        x.choose(1, 1);
        check.due("by another choice", x.whole(0), 10000);
        check.due("by another choice", x.part(0, 1), 10000);
        // a ring that a gram never comes to makes the whole 0 all the same
        SortWorks aside = planned("unit a yes bale 0 no refuse;unit b yes c no c;unit c yes b no b;set a 50 50 50 50 50;");
        aside.inflow(1, 500);
        check.due("whole(1)", aside.whole(1), 0);
        check.due("part(1, 0)", aside.part(1, 0), 0);
        check.due("part(1, 4)", aside.part(1, 4), 0);
        check.due("all is refuse", aside.grams(4, 1), 500);
        check.due("nothing in the bale", aside.grams(0, 1), 0);
    }

    // "What comes goes to UNIT 0 first."
    private static void unitZeroFirst() {
        SortWorks x = planned("unit b yes bale 1 no bale 2;unit a yes bale 0 no b;set a 100 100 100 100 100;set b 25 25 25 25 25;");
        check.due("part(0, 0)", x.part(0, 0), 0);
        check.due("part(0, 1)", x.part(0, 1), 2500);
        check.due("part(0, 2)", x.part(0, 2), 7500);
    }

    // "INFLOW (grams of each KIND, 0 .. 1000000)"; "(grams; NONE: by LORRIES again): true; false, doing nothing, if one can't be"
    private static void inflowByHand() {
        for (int kind = 0; kind < 5; kind++) {
            SortWorks x = new SortWorks();
            for (int grams : new int[] {0, 1, 999999, 1000000}) {
                check.due("inflow(" + kind + ", " + grams + ")", x.inflow(kind, grams), true);
                check.due("comes(" + kind + ")", x.comes(kind), grams);
                check.due("comes of another", x.comes((kind + 1) % 5), 0);
                for (int wrong : new int[] {1000001, 1000002, MAX, -2, -3, MIN}) {
                    check.due("inflow(" + kind + ", " + wrong + ")", x.inflow(kind, wrong), false);
                    check.due("comes(" + kind + ")", x.comes(kind), grams);
                }
            }
            check.due("inflow(" + kind + ", NONE)", x.inflow(kind, -1), true);
            check.due("without lorries", x.comes(kind), 0);
            check.due("inflow of no kind", x.inflow(5, -1), false);
        }
    }

    // "INFLOW is the sum of those not STRUCK .., unless it is told by hand for a KIND"
    private static void inflowByHandOfNothing() {
        SortWorks x = new SortWorks();
        x.lorry(0, 5, 1, 1, 0, 0, 0);
        check.due("inflow(0, 0)", x.inflow(0, 0), true);
        check.due("none by hand is not by lorries", x.comes(0), 0);
        check.due("another kind is by lorries", x.comes(1), 2500);
        x.lorry(1, 5, 1, 1, 0, 0, 0);
        check.due("a lorry changes nothing by hand", x.comes(0), 0);
        check.due("but the other kind", x.comes(1), 5000);
        x.inflow(0, -1);
        check.due("by lorries again", x.comes(0), 5000);
        check.due("by hand it is not brought", x.inflow(0, 7) && x.brought(0, 0) == 2500, true);
    }

    // "a BALE has INFLOW * part / whole of each KIND, cut; all else is refuse"
    private static void gramsCut() {
        SortWorks x = planned("unit a yes bale 0 no b;unit b yes bale 1 no c;unit c yes bale 2 no bale 3;set a 25 0 0 0 0;set b 33 0 0 0 0;set c 50 0 0 0 0;");
        int[][] rows = {{0, 0, 0, 0, 0}, {1, 0, 0, 0, 1}, {3, 0, 0, 0, 3}, {4, 1, 0, 1, 1}, {7, 1, 1, 1, 3}, {400, 100, 99, 100, 1},
            {999999, 249999, 247499, 251249, 3}, {1000000, 250000, 247500, 251250, 0}};
        for (int[] row : rows) {
            x.inflow(0, row[0]);
            int[] due = {row[1], row[2], row[3], row[3], row[4]};
            for (int out = 0; out < 5; out++) {
                check.due("grams(" + out + ", 0) of " + row[0], x.grams(out, 0), due[out]);
            }
        }
    }

    // "An ENDLESS KIND is refuse as a whole."
    private static void endlessKindIsRefuse() {
        SortWorks x = planned("unit a yes a no bale 0;set a 100 99 0 0 0;grade 0 0 0 1000;");
        for (int grams : new int[] {0, 1, 999, 1000000}) {
            x.inflow(0, grams);
            x.inflow(1, grams);
            check.due("endless", x.grams(4, 0), grams);
            check.due("endless", x.grams(0, 0), 0);
            check.due("not endless", x.grams(0, 1), grams);
            check.due("not endless", x.grams(4, 1), 0);
            check.due("worth()", x.worth(), grams - grams / 1000 * 10);
        }
    }

    /** No product of grams, parts and prices is too great. */
    private static void mostGrams() {
        SortWorks x = planned("unit a yes b no bale 0;unit b yes bale 3 no bale 3;unit c yes a no a;unit d yes a no a;unit e yes a no a;"
            + "set a 100 100 100 100 100;grade 3 4 0 9999;");
        for (int kind = 0; kind < 5; kind++) {
            x.inflow(kind, 1000000);
        }
        for (int kind = 0; kind < 5; kind++) {
            check.due("whole(" + kind + ")", x.whole(kind), 10000000000L);
            check.due("part(" + kind + ", 3)", x.part(kind, 3), 10000000000L);
            check.due("grams(3, " + kind + ")", x.grams(3, kind), 1000000);
        }
        check.due("purity(3)", x.purity(3), 20);
        check.due("earns(3)", x.earns(3), 49995000);
        check.due("worth()", x.worth(), 49995000);
        check.due("best()", x.best(), 49995000);
    }

    // "grams of the KIND that its grades name, * 100 / all its grams, cut"
    private static void purityCut() {
        SortWorks x = planned("unit a yes a no bale 2;grade 2 3 1 1;");
        int[][] rows = {{1, 0, 100}, {0, 1, 0}, {1, 1, 50}, {1, 2, 33}, {2, 1, 66}, {99, 1, 99}, {999, 1, 99}, {999999, 1, 99},
            {1, 99, 1}, {1, 100, 0}, {1000000, 0, 100}, {1000000, 1000000, 50}};
        for (int[] row : rows) {
            x.inflow(3, row[0]);
            x.inflow(0, row[1]);
            check.due("purity(2) of " + row[0] + " and " + row[1], x.purity(2), row[2]);
        }
    }

    // "(0 without grams or grades)"
    private static void purityOfNothing() {
        SortWorks x = planned("unit a yes bale 1 no bale 0;grade 1 0 0 9999;");
        check.due("without grams", x.purity(1), 0);
        check.due("without grams", x.earns(1), 0);
        check.due("without grams or grades", x.purity(0), 0);
        x.inflow(0, 1000000);
        check.due("grams, no grades", x.grams(0, 0), 1000000);
        check.due("grams, no grades", x.purity(0), 0);
        check.due("grams, no grades", x.earns(0), 0);
        check.due("grades, no grams", x.purity(1), 0);
        check.due("neither", x.purity(3), 0);
        for (int bale = 0; bale < 4; bale++) {
            check.due("without a plan", new SortWorks().purity(bale), 0);
            check.due("without a plan", new SortWorks().earns(bale), 0);
        }
    }

    // "It earns all its grams * price / 1000, cut"
    private static void earnsCut() {
        SortWorks x = planned("unit a yes a no bale 0;grade 0 0 0 1;");
        int[][] rows = {{0, 0}, {1, 0}, {999, 0}, {1000, 1}, {1001, 1}, {1999, 1}, {2000, 2}, {1000000, 1000}};
        for (int[] row : rows) {
            x.inflow(0, row[0]);
            check.due("earns(0) of " + row[0], x.earns(0), row[1]);
        }
        x.inflow(0, 500);
        x.inflow(1, 499);
        check.due("all its grams", x.earns(0), 0);
        x.inflow(4, 1);
        check.due("all its grams", x.earns(0), 1);
        SortWorks y = planned("unit a yes a no bale 0;grade 0 0 0 9999;");
        y.inflow(0, 1);
        check.due("one gram", y.earns(0), 9);
        Check.plan(y, "unit a yes a no bale 0;grade 0 0 0 0;");
        y.inflow(0, 1000000);
        check.due("a price of 0", y.earns(0), 0);
    }

    // "by the grade of the greatest purity that is not above its own; nothing without one"
    private static void earnsByTheGreatestGrade() {
        SortWorks x = planned("unit a yes a no bale 1;grade 1 0 40 2000;grade 1 0 100 4000;grade 1 0 41 1000;grade 1 0 1 3000;");
        int[][] rows = {{100, 400}, {99, 100}, {42, 100}, {41, 100}, {40, 200}, {39, 300}, {2, 300}, {1, 300}, {0, 0}};
        for (int[] row : rows) {
            x.inflow(0, row[0]);
            x.inflow(1, 100 - row[0]);
            check.due("purity(1)", x.purity(1), row[0]);
            check.due("earns(1) of " + row[0], x.earns(1), row[1]);
        }
        for (int bale = 0; bale < 4; bale++) {
            String four = "unit a yes a no bale B;grade B 4 9 1;grade B 4 90 2;grade B 4 8 3;grade B 4 91 4;".replace("B", "" + bale);
            SortWorks full = planned(four);
            full.inflow(4, 90000);
            full.inflow(0, 10000);
            check.due("earns(" + bale + ") of four grades", full.earns(bale), 200);
        }
        SortWorks y = planned("unit a yes a no bale 1;grade 1 0 0 5000;grade 1 0 1 0;");
        y.inflow(1, 100);
        check.due("a grade of purity 0", y.earns(1), 500);
        y.inflow(0, 100);
        check.due("the greater one, though it pays less", y.earns(1), 0);
    }

    // "less COST .. for each whole kilogram of refuse (cut)"
    private static void worthOfWholeKilograms() {
        SortWorks x = new SortWorks();
        int[][] rows = {{0, 0, 0}, {999, 0, 0}, {1000, 0, -10}, {1999, 0, -10}, {2000, 0, -20}, {999, 1, -10}, {500, 499, 0}, {1500, 500, -20}};
        for (int[] row : rows) {
            x.inflow(0, row[0]);
            x.inflow(4, row[1]);
            check.due("worth() of " + row[0] + " and " + row[1], x.worth(), row[2]);
        }
    }

    // "which may be below 0"
    private static void worthBelowNought() {
        SortWorks x = planned("unit a yes bale 0 no refuse;set a 50 50 50 50 50;grade 0 0 0 10;");
        x.inflow(0, 200000);
        check.due("earned", x.earns(0), 1000);
        check.due("worth() of 0", x.worth(), 0);
        x.cost(11);
        check.due("worth() below 0", x.worth(), -100);
        check.due("best() below 0", x.best(), -100);
        x.cost(9999);
        for (int kind = 0; kind < 5; kind++) {
            x.inflow(kind, 1000000);
        }
        check.due("worth() far below 0", x.worth(), 25000 - 2500 * 9999);
        x.cost(9);
        x.inflow(0, 200000);
        check.due("and above", x.inflow(1, 0) && x.inflow(2, 0) && x.inflow(3, 0) && x.inflow(4, 0) && x.worth() == 100, true);
    }

    // "COST (0 .. 9999; 10 at first)"; "COST: true; false, doing nothing, if it can't be."
    private static void costs() {
        SortWorks x = new SortWorks();
        x.inflow(0, 1000);
        check.due("at first", x.about(2), 10);
        check.due("at first", x.worth(), -10);
        for (int coins : new int[] {0, 1, 9998, 9999}) {
            check.due("cost(" + coins + ")", x.cost(coins), true);
            check.due("about(2)", x.about(2), coins);
            for (int wrong : new int[] {10000, 10001, MAX, -1, -2, MIN}) {
                check.due("cost(" + wrong + ")", x.cost(wrong), false);
            }
            check.due("about(2)", x.about(2), coins);
            check.due("worth()", x.worth(), -coins);
        }
        Check.plan(x, RING);
        check.due("a plan leaves it", x.about(2), 9999);
    }

    // "BEST is the CHOICE of the greatest WORTH; of like ones the first by SETTINGS of UNIT 0, 1, .."
    private static void bestOfLikeOnes() {
        String units = "unit a yes b no b;unit b yes bale 0 no refuse;unit c yes a no a;grade 0 0 0 100;";
        String like = "set a 1 1 1 1 1;set a 2 2 2 2 2;set a 3 3 3 3 3;set c 4 4 4 4 4;set c 5 5 5 5 5;set c 6 6 6 6 6;";
        String[] sets = {"set b 9 0 0 0 0;set b 1 0 0 0 0;set b 9 0 0 0 0;", "set b 1 0 0 0 0;set b 9 0 0 0 0;set b 9 0 0 0 0;",
            "set b 1 0 0 0 0;set b 1 0 0 0 0;set b 9 0 0 0 0;", "set b 9 0 0 0 0;set b 9 0 0 0 0;set b 9 0 0 0 0;"};
        int[] firsts = {0, 1, 2, 0};
        for (int way = 0; way < sets.length; way++) {
            SortWorks x = planned(units + like + sets[way]);
            x.inflow(0, 100000);
            x.choose(0, 2);
            x.choose(1, 1);
            x.choose(2, 1);
            check.due("best()", x.best(), 900 - 910);
            int[] due = {0, firsts[way], 0};
            for (int unit = 0; unit < 3; unit++) {
                check.due("the first of like ones", x.unit(unit, 3), due[unit]);
            }
            check.due("worth()", x.worth(), -10);
            check.due("best() again", x.best(), -10);
        }
        // two ways to the same WORTH: UNIT 0 counts before UNIT 1
        SortWorks y = planned("unit a yes bale 0 no b;unit b yes bale 0 no refuse;set a 0 0 0 0 0;set a 100 0 0 0 0;set b 0 0 0 0 0;set b 100 0 0 0 0;"
            + "grade 0 0 0 1;");
        y.inflow(0, 1000000);
        check.due("best()", y.best(), 1000);
        check.due("unit(0, 3)", y.unit(0, 3), 0);
        check.due("unit(1, 3)", y.unit(1, 3), 1);
    }

    /** best() of one CHOICE only, of no UNITS, and of nothing that comes. */
    private static void bestWithoutUnits() {
        SortWorks x = new SortWorks();
        check.due("best() of nothing", x.best(), 0);
        x.inflow(1, 1000);
        check.due("best() without units", x.best(), -10);
        SortWorks one = planned("unit a yes bale 0 no refuse;");
        one.inflow(0, 3000);
        check.due("best() of one choice", one.best(), -30);
        SortWorks idle = planned(RING);
        idle.choose(1, 1);
        check.due("best() of nothing that comes", idle.best(), 0);
        check.due("is the first choice", idle.unit(1, 3), 0);
        SortWorks endless = planned("unit a yes a no bale 0;set a 100 100 100 100 100;set a 100 100 100 100 100;");
        endless.inflow(0, 5000);
        endless.choose(0, 1);
        check.due("best() of endless choices", endless.best(), -50);
        check.due("is the first choice", endless.unit(0, 3), 0);
    }

    /** Each of the 243 CHOICES is looked at, the first and the last among them. */
    private static void bestOfAllChoices() {
        String[] names = {"a", "b", "c", "d", "e"};
        for (int wanted = 0; wanted < 243; wanted += wanted == 241 ? 1 : 11) {
            StringBuilder text = new StringBuilder();
            int rest = wanted;
            int[] due = new int[5];
            for (int unit = 0; unit < 5; unit++) {
                due[unit] = rest % 3;
                rest /= 3;
                text.append("unit ").append(names[unit]).append(" yes ").append(unit < 4 ? names[unit + 1] : "bale 3").append(" no refuse;");
                for (int setting = 0; setting < 3; setting++) {
                    text.append("set ").append(names[unit]).append(setting == due[unit] ? " 100" : " 90").append(" 0 0 0 0;");
                }
            }
            SortWorks x = planned(text.append("grade 3 0 100 1;").toString());
            x.inflow(0, 1000000);
            check.due("best() " + wanted, x.best(), 1000);
            for (int unit = 0; unit < 5; unit++) {
                check.due("unit(" + unit + ", 3)", x.unit(unit, 3), due[unit]);
            }
        }
    }

    // "n bags (1 .. 30) .. (s at most n)"; "NONE if one can't be (b 0 .. n, s 0 .. n, a 0 .. s)"
    private static void chancesThatCanBe() {
        SortWorks x = new SortWorks();
        for (int n : new int[] {1, 2, 29, 30}) {
            for (int[] fit : new int[][] {{0, 0, 0}, {n, n, n}, {0, n, 0}, {n, 0, 0}, {n, n, 0}, {1, 1, 1}, {n, 1, 0}}) {
                for (int part = 0; part < 2; part++) {
                    check.due("chance(" + n + ", ..) can be", x.chance(n, fit[0], fit[1], fit[2], part) >= 0, true);
                }
            }
            for (int part = 0; part < 2; part++) {
                check.due("b above n", x.chance(n, n + 1, n, n, part), -1);
                check.due("b below 0", x.chance(n, -1, n, n, part), -1);
                check.due("s above n", x.chance(n, n, n + 1, n, part), -1);
                check.due("s below 0", x.chance(n, n, -1, 0, part), -1);
                check.due("s and a below 0", x.chance(n, n, -1, -1, part), -1);
                check.due("a above s", x.chance(n, n, n - 1, n, part), -1);
                check.due("a below 0", x.chance(n, n, n, -1, part), -1);
            }
            for (int part : wrongs(2)) {
                check.due("no part " + part, x.chance(n, 0, 0, 0, part), -1);
            }
        }
        for (int part = 0; part < 2; part++) {
            check.due("no bags", x.chance(0, 0, 0, 0, part), -1);
            check.due("31 bags", x.chance(31, 0, 0, 0, part), -1);
            check.due("31 bags", x.chance(31, 31, 31, 31, part), -1);
            for (int far : FAR) {
                check.due("n", x.chance(far, 0, 0, 0, part), -1);
                check.due("b", x.chance(5, far, 3, 1, part), -1);
                check.due("s", x.chance(5, 2, far, 0, part), -1);
                check.due("a", x.chance(5, 2, 3, far, part), -1);
            }
        }
    }

    private static void chance(int n, int b, int s, int a, int passing, int all) {
        SortWorks x = new SortWorks();
        String call = "chance(" + n + ", " + b + ", " + s + ", " + a + ", ";
        check.due(call + "0)", x.chance(n, b, s, a, 0), passing);
        check.due(call + "1)", x.chance(n, b, s, a, 1), all);
    }

    // "CHANCE: the ways to draw that pass, by all ways; in lowest terms."
    private static void chancesInLowestTerms() {
        for (int n : new int[] {1, 2, 15, 30}) {
            chance(n, 0, 0, 0, 1, 1);
            chance(n, n, 0, 0, 1, 1);
            chance(n, 0, n, 0, 1, 1);
            chance(n, n, n, n, 1, 1);
            chance(n, n, n, n - 1, 0, 1);
            chance(n, n, 1, 0, 0, 1);
            chance(n, 1, n, 0, 0, 1);
            chance(n, 1, n, 1, 1, 1);
        }
        chance(4, 2, 1, 0, 1, 2);
        chance(4, 1, 2, 0, 1, 2);
        chance(4, 2, 2, 0, 1, 6);
        chance(4, 2, 2, 1, 5, 6);
        chance(6, 4, 3, 1, 1, 5);
        chance(5, 2, 4, 1, 2, 5);
        chance(30, 1, 1, 0, 29, 30);
        chance(30, 29, 1, 0, 1, 30);
    }

    // "n bags (1 .. 30)": the greatest numbers there are
    private static void chancesOfTheGreatest() {
        chance(30, 15, 15, 0, 1, 155117520);
        chance(30, 15, 15, 14, 155117519, 155117520);
        chance(30, 15, 15, 15, 1, 1);
        chance(29, 14, 14, 13, 77558759, 77558760);
        chance(30, 15, 14, 0, 1, 9694845);
    }

    /** Each TEST that can be, by Pascal's triangle. */
    private static void allChances() {
        long[][] ways = new long[31][31];
        for (int n = 0; n <= 30; n++) {
            ways[n][0] = 1;
            for (int s = 1; s <= n; s++) {
                ways[n][s] = ways[n - 1][s - 1] + ways[n - 1][s];
            }
        }
        for (int n = 1; n <= 30; n++) {
            for (int b = 0; b <= n; b++) {
                for (int s = 0; s <= n; s++) {
                    SortWorks x = new SortWorks();
                    long passing = 0;
                    for (int a = 0; a <= s; a++) {
                        passing += ways[b][a] * ways[n - b][s - a];
                        long all = ways[n][s];
                        long divisor = BigInteger.valueOf(passing).gcd(BigInteger.valueOf(all)).longValue();
                        check.due("numerator", x.chance(n, b, s, a, 0), passing / divisor);
                        check.due("denominator", x.chance(n, b, s, a, 1), all / divisor);
                    }
                }
            }
        }
    }
}
