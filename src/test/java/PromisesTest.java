/** Each promise of the document: ordinary inputs, its edges, wrong inputs. */
public final class PromisesTest {
    private static final int MIN = Integer.MIN_VALUE;
    private static final int MAX = Integer.MAX_VALUE;
    private static final Check check = new Check("PromisesTest");

    private static final String RING =
        "unit drum yes mag no jet; unit mag yes bale 0 no refuse; unit jet yes bale 1 no drum;"
        + "set drum 50 0 100 0 0; set mag 0 0 90 0 0; set mag 0 0 100 10 0; set jet 80 50 0 0 0;"
        + "grade 0 2 90 100; grade 0 2 50 40; grade 1 0 80 200;";

    public static void main(String[] args) {
        newObject();
        feed();
        end();
        plan();
        planAfterPlans();
        faultOfNoPlan();
        faultsOfTokens();
        faultsOfPlaces();
        faultsOfNumbers();
        faultsOfGradesAndNames();
        faultsFirstByPlace();
        unit();
        setting();
        choose();
        wholeAndPart();
        inflowAndComes();
        grams();
        purityAndEarns();
        costAndWorth();
        best();
        chance();
        lorry();
        strike();
        brought();
        share();
        about();
        check.due("NONE", SortWorks.NONE, -1);
        check.finish();
    }

    private static SortWorks planned(String text, int units) {
        SortWorks x = new SortWorks();
        check.due("plan() of " + text, Check.plan(x, text), units);
        check.due("fault(0) of " + text, x.fault(0), 0);
        return x;
    }

    private static void fails(String text, int fault, int place) {
        SortWorks x = new SortWorks();
        check.due("plan() of " + text, Check.plan(x, text), -1);
        check.due("fault(0) of " + text, x.fault(0), fault);
        check.due("fault(1) of " + text, x.fault(1), place);
    }

    private static void newObject() {
        SortWorks x = new SortWorks();
        for (int what = 0; what <= 3; what++) {
            check.due("about(" + what + ")", x.about(what), what == 2 ? 10 : 0);
        }
        for (int kind = 0; kind < 5; kind++) {
            check.due("whole", x.whole(kind), 1);
            check.due("comes", x.comes(kind), 0);
            check.due("grade", kind < 4 ? x.about(10 + kind) : 0, 0);
            for (int out = 0; out < 5; out++) {
                check.due("part", x.part(kind, out), out == 4 ? 1 : 0);
                check.due("grams", x.grams(out, kind), 0);
                check.due("brought", x.brought(out, kind), 0);
                check.due("share", x.share(out, kind, 77), 0);
            }
        }
        check.due("unit(0, 0)", x.unit(0, 0), -1);
        check.due("worth()", x.worth(), 0);
        check.due("best()", x.best(), 0);
    }

    private static void feed() {
        SortWorks x = new SortWorks();
        for (int n = 1; n <= 60; n++) {
            check.due("feed " + n, x.feed(0x20202020, 0x20202020, 0x20202020, 0x20202020, 0x20202020), 20 * n);
        }
        check.due("feed 61", x.feed(1, 1, 1, 1, 1), -1);
        check.due("about(3)", x.about(3), 1200);
        x.end(1181);
        check.due("feed at 1181", x.feed(1, 1, 1, 1, 1), -1);
        check.due("about(3)", x.about(3), 1181);
        x.end(1180);
        check.due("feed at 1180", x.feed(0x20202020, 0x20202020, 0x20202020, 0x20202020, 0x20202020), 1200);
        check.due("plan() of 1200 blanks", x.plan(), 0);
        SortWorks y = new SortWorks();
        y.feed(0x01202020, 0, 0, 0, 0);
        check.due("plan()", y.plan(), -1);
        check.due("the highest byte is first", y.fault(1), 0);
        y.end(0);
        y.feed(0x20202020, 0x2020201f, 0, 0, 0);
        y.plan();
        check.due("the lowest byte is last", y.fault(1), 7);
        y.end(0);
        y.feed(0x20202020, 0x20202020, 0x20202020, 0x20202020, 0x202020ff);
        y.plan();
        check.due("the last of twenty", y.fault(1), 19);
    }

    private static void end() {
        SortWorks x = new SortWorks();
        check.due("end(0)", x.end(0), 0);
        check.due("end(1)", x.end(1), -1);
        x.feed(0, 0, 0, 0, 0);
        check.due("end(21)", x.end(21), -1);
        check.due("end(-1)", x.end(-1), -1);
        check.due("end(MIN)", x.end(MIN), -1);
        check.due("about(3)", x.about(3), 20);
        check.due("end(20)", x.end(20), 20);
        check.due("end(7)", x.end(7), 7);
        check.due("end(8)", x.end(8), -1);
        check.due("about(3)", x.about(3), 7);
        check.due("feed", x.feed(0, 0, 0, 0, 0), 27);
    }

    private static void plan() {
        SortWorks x = planned(RING, 3);
        check.due("about(3)", x.about(3), 0);
        x.choose(1, 1);
        x.inflow(0, 12);
        x.cost(3);
        check.due("a plan with a fault", Check.plan(x, "unit a yes b no c"), -1);
        check.due("about(0) stays", x.about(0), 3);
        check.due("the choice stays", x.unit(1, 3), 1);
        check.due("the tape stays", x.about(3), 17);
        check.due("settings stay", x.setting(2, 0, 1), 50);
        check.due("grades stay", x.about(10), 2);
        check.due("fault(0)", x.fault(0), 2);
        Check.feed(x, "; unit b yes c no a; unit c yes refuse no bale 2;");
        check.due("a good plan", x.plan(), 3);
        check.due("about(3)", x.about(3), 0);
        check.due("the choice is the first settings", x.unit(1, 3), 0);
        check.due("old settings are gone", x.setting(1, 1, 0), -1);
        check.due("old percents are gone", x.setting(2, 0, 1), 0);
        check.due("old grades are gone", x.about(10), 0);
        check.due("inflow stays", x.comes(0), 12);
        check.due("cost stays", x.about(2), 3);
        check.due("fault(0)", x.fault(0), 0);
        check.due("fault(1)", x.fault(1), -1);
        check.due("the empty text", x.plan(), 0);
        check.due("about(0)", x.about(0), 0);
        planned("\n \n", 0);
        planned("unit a yes bale 0no refuse;".replace("0no", "0 no"), 1);
        planned("unit\nabcdefgh\nyes bale3\nno refuse;set abcdefgh00100 0 0 0 00000;grade0 0 0 0;", 1);
        planned("grade 3 4 100 9999;grade 3 4 0 0;grade 3 4 99 00001;grade 3 4 1 5;", 0);
        planned("unit a yes e no b;unit b yes a no a;unit c yes c no c;unit d yes d no e;unit e yes refuse no bale 0;", 5);
        planned("unit units yes yess no noo;unit yess yes refuse no bale 0;unit noo yes units no refuse;", 3);
        planned("grade 0 1 2 3;grade 1 1 2 3;", 0);
    }

    /** What an earlier plan, or the told part of one with a fault, said must not show through in a later one. */
    private static void planAfterPlans() {
        SortWorks x = planned(RING, 3);
        String small = "unit a yes a no bale 2;";
        for (int time = 0; time < 3; time++) {
            check.due("a small plan", Check.plan(x, small), 1);
            check.due("its settings", x.unit(0, 0), 1);
            check.due("its setting", x.setting(0, 0, 0), 0);
            check.due("its grades", x.about(10), 0);
            check.due("units", x.unit(1, 0), -1);
            check.due("a plan with a fault", Check.plan(x, RING + "?"), -1);
        }
        for (int time = 0; time < 3; time++) {
            check.due("a large plan", Check.plan(x, RING), 3);
            check.due("its settings", x.unit(1, 0), 2);
            check.due("its grades", x.about(10), 2);
        }
    }

    private static void faultOfNoPlan() {
        SortWorks x = new SortWorks();
        check.due("fault(0)", x.fault(0), 0);
        check.due("fault(1)", x.fault(1), -1);
        check.due("fault(2)", x.fault(2), -1);
        check.due("fault(-1)", x.fault(-1), -1);
        Check.plan(x, " ;");
        check.due("fault(0)", x.fault(0), 2);
        check.due("fault(1)", x.fault(1), 1);
        check.due("fault(2)", x.fault(2), -1);
        check.due("fault(MIN)", x.fault(MIN), -1);
        x.end(0);
        x.plan();
        check.due("fault(0)", x.fault(0), 0);
        check.due("fault(1)", x.fault(1), -1);
    }

    private static void faultsOfTokens() {
        fails("?", 1, 0);
        fails("  Unit", 1, 2);
        fails("\t", 1, 0);
        fails("\r", 1, 0);
        fails("unit a, yes", 1, 6);
        fails("unit " + (char) 225, 1, 5);
        fails("unit " + (char) 0, 1, 5);
        fails("unit abcdefghi yes", 1, 5);
        fails("grade 0 0 000000", 1, 10);
        fails("grade 0 0 123456", 1, 10);
        fails("grade 0 0 5x", 1, 10);
        fails("unit a yes bale 0no refuse;", 1, 16);
        fails("grade 0 0 5X", 1, 11);
        fails("grade 0 0 5?", 1, 11);
        fails("abcdefghi", 1, 0);
        fails("grade 0x 0", 1, 6);
    }

    private static void faultsOfPlaces() {
        fails(";", 2, 0);
        fails("7", 2, 0);
        fails("a", 2, 0);
        fails("units a", 2, 0);
        fails("yes", 2, 0);
        fails("unit", 2, 4);
        fails("unit  ", 2, 6);
        fails("unit 5 yes", 2, 5);
        fails("unit yes yes", 2, 5);
        fails("unit set yes", 2, 5);
        fails("unit a5 yes", 2, 6);
        fails("unit a no", 2, 7);
        fails("unit a yes ;", 2, 11);
        fails("unit a yes no", 2, 11);
        fails("unit a yes 3", 2, 11);
        fails("unit a yes bale x", 2, 16);
        fails("unit a yes bale ;", 2, 16);
        fails("unit a yes refuse yes", 2, 18);
        fails("unit a yes refuse no refuse", 2, 27);
        fails("unit a yes refuse no refuse unit", 2, 28);
        fails("set 1", 2, 4);
        fails("set unit", 2, 4);
        fails("set x 1 2 3 4;", 2, 13);
        fails("set x 1 2 3 4 5 6;", 2, 16);
        fails("set x 1 2 a", 2, 10);
        fails("grade x", 2, 6);
        fails("grade 0 1 2;", 2, 11);
        fails("grade 0 1 2 3", 2, 13);
        fails("grade 0 1 2 3 4", 2, 14);
        String five = "unit a yes a no a;unit b yes a no a;unit c yes a no a;unit d yes a no a;unit e yes a no a;";
        fails(five + " unit ?", 2, five.length() + 1);
        fails(five + "unit a", 2, five.length());
        String set = "set a 1 2 3 4 5;";
        fails(set + set + set + "set a ?", 2, 3 * set.length() + 4);
        fails(set + set + set + "set ?", 1, 3 * set.length() + 4);
        fails(five + set + set + "set b 0 0 0 0 0;" + set + set, 2, five.length() + 4 * set.length() + 4);
        String grades = "grade 1 0 1 1;grade 1 0 2 1;grade 1 0 3 1;grade 1 0 4 1;";
        fails(grades + "grade 1 9", 2, grades.length() + 6);
        fails(grades + "grade 4 9", 4, grades.length() + 6);
        planned(grades + "grade 0 0 4 1;", 0);
        planned(five + set + "set a 1 2 3 4 5 ;set a 1 2 3 4 5;", 5);
    }

    private static void faultsOfNumbers() {
        fails("unit a yes bale 4 no", 4, 16);
        fails("unit a yes bale 99999 ?", 4, 16);
        fails("unit a yes bale 3 no bale 4;", 4, 26);
        fails("set x 0 0 0 0 101;", 4, 14);
        fails("set x 101", 4, 6);
        fails("grade 4 0 0 0;", 4, 6);
        fails("grade 3 5 0 0;", 4, 8);
        fails("grade 3 4 101 0;", 4, 10);
        fails("grade 3 4 100 10000;", 4, 14);
        planned("unit x yes bale 3 no bale 0;set x 0 0 0 0 100;grade 3 4 100 9999;", 1);
    }

    private static void faultsOfGradesAndNames() {
        String one = "grade 2 3 50 8;";
        fails(one + "grade 2 1 50 8;", 5, 23);
        fails(one + "grade 2 7 50 8;", 4, 23);
        fails(one + "grade 2 3 50 8;", 5, 25);
        fails(one + "grade 2 3 050 10000;", 5, 25);
        fails(one + "grade 2 3 40 8;grade 2 3 50 8", 5, 40);
        planned(one + "grade 2 3 51 8;grade 1 1 50 8;", 0);
        fails("unit a yes a no a;unit a yes", 3, 23);
        fails("unit a yes a no a;unit b yes c no a;unit a yes", 3, 41);
        fails("unit a yes b no c;", 6, 11);
        fails("set z 0 0 0 0 0;unit a yes b no c;", 6, 4);
        fails("unit a yes a no a; set abc 1 2 3 4 5;set ab 1 2 3 4 5;", 6, 23);
        fails("unit a yes b no c;unit b yes a no a;", 6, 16);
        fails("unit a yes aa no refuse;", 6, 11);
        planned("unit a yes b no refuse;unit b yes a no bale 0;", 2);
    }

    private static void faultsFirstByPlace() {
        fails("unit a yes b no c; ?", 1, 19);
        fails("set z 0 0 0 0 0;;", 2, 16);
        fails("unit a yes b no bale 9 ?", 4, 21);
        fails("set z 0 0 0 0 0;grade 9", 4, 22);
        fails("unit a yes b no b;unit a", 3, 23);
        fails("grade 0 0 101 ?", 4, 10);
        fails("grade 0 ? 101", 1, 8);
    }

    private static void unit() {
        SortWorks x = planned(RING + "set jet 1 1 1 1 1;set jet 2 2 2 2 2;", 3);
        int[][] want = {{1, 1, 2, 0}, {2, 10, 20, 0}, {3, 11, 0, 0}};
        for (int u = 0; u < 3; u++) {
            for (int what = 0; what < 4; what++) {
                check.due("unit(" + u + ", " + what + ")", x.unit(u, what), want[u][what]);
            }
        }
        x.choose(2, 2);
        check.due("unit(2, 3)", x.unit(2, 3), 2);
        for (int wrong : new int[] {-1, 4, MIN, MAX}) {
            check.due("unit(0, " + wrong + ")", x.unit(0, wrong), -1);
            check.due("unit(" + wrong + ", 0)", x.unit(wrong, 0), -1);
        }
        check.due("unit(3, 0)", x.unit(3, 0), -1);
        SortWorks y = planned("unit a yes bale 3 no a;", 1);
        check.due("settings without one told", y.unit(0, 0), 1);
        check.due("unit(0, 1)", y.unit(0, 1), 13);
        check.due("unit(0, 2)", y.unit(0, 2), 0);
    }

    private static void setting() {
        SortWorks x = planned("set b 9 8 7 6 5;unit a yes b no b;unit b yes a no refuse;set b 0 100 50 1 99;", 2);
        int[] first = {9, 8, 7, 6, 5};
        int[] second = {0, 100, 50, 1, 99};
        for (int kind = 0; kind < 5; kind++) {
            check.due("setting(1, 0, " + kind + ")", x.setting(1, 0, kind), first[kind]);
            check.due("setting(1, 1, " + kind + ")", x.setting(1, 1, kind), second[kind]);
            check.due("setting(0, 0, " + kind + ")", x.setting(0, 0, kind), 0);
        }
        check.due("setting(1, 2, 0)", x.setting(1, 2, 0), -1);
        check.due("setting(0, 1, 0)", x.setting(0, 1, 0), -1);
        check.due("setting(2, 0, 0)", x.setting(2, 0, 0), -1);
        check.due("setting(-1, 0, 0)", x.setting(-1, 0, 0), -1);
        check.due("setting(1, -1, 0)", x.setting(1, -1, 0), -1);
        check.due("setting(1, 0, 5)", x.setting(1, 0, 5), -1);
        check.due("setting(1, 0, -1)", x.setting(1, 0, -1), -1);
        check.due("setting(MAX, MAX, MAX)", x.setting(MAX, MAX, MAX), -1);
    }

    private static void choose() {
        SortWorks x = planned(RING, 3);
        check.due("choose(1, 1)", x.choose(1, 1), true);
        check.due("choose(1, 2)", x.choose(1, 2), false);
        check.due("choose(1, -1)", x.choose(1, -1), false);
        check.due("choose(3, 0)", x.choose(3, 0), false);
        check.due("choose(-1, 0)", x.choose(-1, 0), false);
        check.due("unit(1, 3)", x.unit(1, 3), 1);
        check.due("part(3, 0)", x.part(3, 0), 0);
        check.due("part(2, 0)", x.part(2, 0), 1000000);
        check.due("choose(1, 0)", x.choose(1, 0), true);
        check.due("part(2, 0)", x.part(2, 0), 900000);
        check.due("choose without units", new SortWorks().choose(0, 0), false);
    }

    private static void wholeAndPart() {
        SortWorks x = planned(RING, 3);
        long[] wholes = {900000, 500000, 1000000, 0, 0};
        long[][] parts = {{0, 400000, 0, 0, 500000}, {0, 500000, 0, 0, 0}, {900000, 0, 0, 0, 100000}, {0, 0, 0, 0, 0}, {0, 0, 0, 0, 0}};
        for (int kind = 0; kind < 5; kind++) {
            check.due("whole(" + kind + ")", x.whole(kind), wholes[kind]);
            for (int out = 0; out < 5; out++) {
                check.due("part(" + kind + ", " + out + ")", x.part(kind, out), parts[kind][out]);
            }
        }
        for (int wrong : new int[] {-1, 5, MIN, MAX}) {
            check.due("whole(wrong)", x.whole(wrong), -1);
            check.due("part(wrong, 0)", x.part(wrong, 0), -1);
            check.due("part(0, wrong)", x.part(0, wrong), -1);
            check.due("part of no units", new SortWorks().part(wrong, 4), -1);
        }
        SortWorks line = planned("unit a yes bale 0 no b;unit b yes bale 1 no c;unit c yes bale 2 no d;unit d yes bale 3 no e;"
            + "unit e yes refuse no refuse;set a 50 100 0 0 1;set b 50 0 0 0 1;set c 50 0 0 0 1;set d 50 0 0 0 1;", 5);
        check.due("whole of five", line.whole(0), 10000000000L);
        check.due("part(0, 0)", line.part(0, 0), 5000000000L);
        check.due("part(0, 3)", line.part(0, 3), 625000000L);
        check.due("part(0, 4)", line.part(0, 4), 625000000L);
        check.due("part(1, 0)", line.part(1, 0), 10000000000L);
        check.due("part(2, 4)", line.part(2, 4), 10000000000L);
        check.due("part(4, 3)", line.part(4, 3), 97029900L);
        SortWorks aside = planned("unit a yes refuse no bale 0;unit b yes b no b;", 2);
        check.due("a ring that nothing comes to", aside.whole(0), 0);
        check.due("part(0, 0)", aside.part(0, 0), 0);
        check.due("part(0, 4)", aside.part(0, 4), 0);
    }

    private static void inflowAndComes() {
        SortWorks x = new SortWorks();
        check.due("inflow(0, 1000000)", x.inflow(0, 1000000), true);
        check.due("inflow(0, 1000001)", x.inflow(0, 1000001), false);
        check.due("inflow(0, -2)", x.inflow(0, -2), false);
        check.due("inflow(0, MIN)", x.inflow(0, MIN), false);
        check.due("inflow(5, 0)", x.inflow(5, 0), false);
        check.due("inflow(-1, 0)", x.inflow(-1, 0), false);
        check.due("comes(0)", x.comes(0), 1000000);
        check.due("comes(5)", x.comes(5), -1);
        check.due("comes(-1)", x.comes(-1), -1);
        check.due("lorry", x.lorry(1, 7, 1, 1, 1, 0, 0), 0);
        check.due("comes(0)", x.comes(0), 1000000);
        check.due("comes(1)", x.comes(1), 2333);
        check.due("comes(3)", x.comes(3), 0);
        check.due("inflow(0, -1)", x.inflow(0, -1), true);
        check.due("inflow(0, -1)", x.inflow(0, -1), true);
        check.due("comes(0)", x.comes(0), 2333);
        check.due("inflow(1, 0)", x.inflow(1, 0), true);
        check.due("comes(1)", x.comes(1), 0);
        x.lorry(2, 20000, 1, 0, 0, 0, 0);
        check.due("comes at most", x.comes(0), 1000000);
        check.due("brought is more", x.brought(2, 0), 20000000);
        x.strike(1);
        check.due("comes(0)", x.comes(0), 2333);
    }

    private static void grams() {
        SortWorks x = planned("unit a yes bale 1 no b;unit b yes bale 2 no bale 3;set a 33 33 0 100 0;set b 50 0 0 0 100;", 2);
        x.inflow(0, 1001);
        x.inflow(1, 1);
        int[] kind0 = {0, 330, 335, 335, 1};
        int[] kind1 = {0, 0, 0, 0, 1};
        for (int out = 0; out < 5; out++) {
            check.due("grams(" + out + ", 0)", x.grams(out, 0), kind0[out]);
            check.due("grams(" + out + ", 1)", x.grams(out, 1), kind1[out]);
        }
        check.due("grams(5, 0)", x.grams(5, 0), -1);
        check.due("grams(-1, 0)", x.grams(-1, 0), -1);
        check.due("grams(0, 5)", x.grams(0, 5), -1);
        check.due("grams(0, -1)", x.grams(0, -1), -1);
        x.inflow(4, 1000000);
        check.due("grams(2, 4)", x.grams(2, 4), 1000000);
        SortWorks y = planned("unit a yes a no refuse;set a 100 99 0 0 0;", 1);
        y.inflow(0, 77);
        y.inflow(1, 99);
        check.due("an endless kind", y.grams(4, 0), 77);
        check.due("a kind that goes round", y.grams(4, 1), 99);
        y.end(0);
        y.plan();
        check.due("without units", y.grams(4, 0), 77);
        check.due("without units", y.grams(0, 0), 0);
        SortWorks big = planned("unit a yes bale 0 no b;unit b yes c no c;unit c yes d no d;unit d yes e no e;unit e yes bale 1 no bale 2;"
            + "set a 1 1 1 1 1;set e 1 1 1 1 1;", 5);
        big.inflow(0, 1000000);
        check.due("grams of five", big.grams(2, 0), 980100);
        check.due("grams of five", big.grams(1, 0), 9900);
    }

    private static void purityAndEarns() {
        SortWorks x = planned("unit a yes bale 0 no bale 1;set a 100 100 0 0 0;"
            + "grade 0 0 50 100;grade 0 0 90 300;grade 0 0 49 10;grade 0 0 91 9999;grade 1 3 10 5;", 1);
        check.due("purity without grams", x.purity(0), 0);
        check.due("earns without grams", x.earns(0), 0);
        x.inflow(0, 899);
        x.inflow(1, 101);
        check.due("purity(0)", x.purity(0), 89);
        check.due("earns(0)", x.earns(0), 100);
        x.inflow(1, 99);
        check.due("purity(0)", x.purity(0), 90);
        check.due("earns(0)", x.earns(0), 299);
        x.inflow(1, 0);
        check.due("purity(0)", x.purity(0), 100);
        check.due("earns(0)", x.earns(0), 8989);
        x.inflow(1, 1000000);
        check.due("purity(0)", x.purity(0), 0);
        check.due("earns by no grade", x.earns(0), 0);
        x.inflow(2, 5000);
        check.due("purity of another kind", x.purity(1), 0);
        check.due("earns(1)", x.earns(1), 0);
        check.due("purity without grades", x.purity(2), 0);
        check.due("earns without grades", x.earns(2), 0);
        for (int wrong : new int[] {-1, 4, MIN, MAX}) {
            check.due("purity(wrong)", x.purity(wrong), -1);
            check.due("earns(wrong)", x.earns(wrong), -1);
        }
        SortWorks y = planned("unit a yes refuse no bale 3;grade 3 0 0 9999;", 1);
        for (int kind = 1; kind < 5; kind++) {
            y.inflow(kind, 1000000);
        }
        check.due("a grade of purity 0", y.earns(3), 39996000);
        y.inflow(0, 1000000);
        check.due("purity(3)", y.purity(3), 20);
        check.due("earns(3)", y.earns(3), 49995000);
    }

    private static void costAndWorth() {
        SortWorks x = new SortWorks();
        x.inflow(0, 999);
        check.due("worth below a kilogram", x.worth(), 0);
        x.inflow(4, 1);
        check.due("worth of a kilogram of two kinds", x.worth(), -10);
        check.due("cost(9999)", x.cost(9999), true);
        check.due("cost(10000)", x.cost(10000), false);
        check.due("cost(-1)", x.cost(-1), false);
        check.due("cost(MIN)", x.cost(MIN), false);
        check.due("worth()", x.worth(), -9999);
        for (int kind = 0; kind < 5; kind++) {
            x.inflow(kind, 1000000);
        }
        check.due("worth()", x.worth(), -49995000);
        check.due("cost(0)", x.cost(0), true);
        check.due("worth()", x.worth(), 0);
        SortWorks y = planned(RING, 3);
        y.inflow(0, 900000);
        y.inflow(1, 50000);
        y.inflow(2, 100001);
        y.inflow(3, 7);
        check.due("worth()", y.worth(), 93900);
    }

    private static void best() {
        SortWorks x = planned("unit a yes bale 0 no refuse;unit b yes a no a;set a 10 0 0 0 0;set a 90 0 0 0 0;set a 90 0 0 0 0;"
            + "set b 1 1 1 1 1;set b 2 2 2 2 2;grade 0 0 0 100;", 2);
        x.inflow(0, 100000);
        x.choose(0, 2);
        x.choose(1, 1);
        check.due("best()", x.best(), 8900);
        check.due("of like ones the first", x.unit(0, 3), 1);
        check.due("of like ones the first", x.unit(1, 3), 0);
        check.due("worth() then", x.worth(), 8900);
        x.inflow(0, 0);
        check.due("best() of nothing", x.best(), 0);
        check.due("unit(0, 3)", x.unit(0, 3), 0);
        SortWorks y = planned("unit a yes refuse no b;unit b yes refuse no refuse;set a 0 0 0 0 0;set a 50 0 0 0 0;", 2);
        y.inflow(0, 2000);
        y.choose(0, 1);
        check.due("best() below 0", y.best(), -20);
        check.due("unit(0, 3)", y.unit(0, 3), 0);
        SortWorks z = planned("unit a yes bale 0 no b;unit b yes bale 1 no refuse;set a 0 0 0 0 0;set a 50 50 0 0 0;"
            + "set b 0 0 0 0 0;set b 100 0 0 0 0;set b 100 100 0 0 0;grade 0 0 60 100;grade 1 0 90 100;grade 1 0 30 20;", 2);
        z.inflow(0, 100000);
        z.inflow(1, 100000);
        z.cost(0);
        check.due("best()", z.best(), 10000);
        check.due("unit(0, 3)", z.unit(0, 3), 0);
        check.due("unit(1, 3)", z.unit(1, 3), 1);
        z.cost(200);
        check.due("best()", z.best(), 4000);
        check.due("unit(1, 3)", z.unit(1, 3), 2);
    }

    private static void chance() {
        SortWorks x = new SortWorks();
        int[][] rows = {{10, 2, 3, 0, 7, 15}, {5, 5, 2, 1, 0, 1}, {4, 2, 2, 2, 1, 1}, {30, 15, 15, 15, 1, 1},
            {30, 15, 15, 7, 1, 2}, {1, 0, 0, 0, 1, 1}, {1, 1, 1, 0, 0, 1}, {1, 1, 1, 1, 1, 1}, {6, 3, 3, 1, 1, 2},
            {30, 15, 15, 0, 1, 155117520}, {7, 3, 2, 0, 2, 7}, {7, 0, 7, 0, 1, 1}};
        for (int[] row : rows) {
            String call = "chance(" + row[0] + ", " + row[1] + ", " + row[2] + ", " + row[3] + ", ";
            check.due(call + "0)", x.chance(row[0], row[1], row[2], row[3], 0), row[4]);
            check.due(call + "1)", x.chance(row[0], row[1], row[2], row[3], 1), row[5]);
        }
        int[][] wrong = {{0, 0, 0, 0, 0}, {31, 0, 0, 0, 0}, {4, 5, 2, 2, 0}, {4, -1, 2, 2, 0}, {4, 2, 5, 2, 0}, {4, 2, -1, 0, 0},
            {4, 2, 2, 3, 0}, {4, 2, 2, -1, 0}, {4, 2, 2, 2, 2}, {4, 2, 2, 2, -1}, {MAX, MAX, MAX, MAX, 0}, {MIN, MIN, MIN, MIN, 0}};
        for (int[] row : wrong) {
            check.due("a chance that can't be", x.chance(row[0], row[1], row[2], row[3], row[4]), -1);
        }
    }

    private static void lorry() {
        SortWorks x = new SortWorks();
        check.due("town -1", x.lorry(-1, 1, 0, 0, 0, 0, 0), -1);
        check.due("town 5", x.lorry(5, 1, 0, 0, 0, 0, 0), -1);
        check.due("weight 0", x.lorry(0, 0, 0, 0, 0, 0, 0), -1);
        check.due("weight 20001", x.lorry(0, 20001, 0, 0, 0, 0, 0), -1);
        for (int wrong : new int[] {-1, 1001, MIN, MAX}) {
            check.due("a", x.lorry(0, 1, wrong, 0, 0, 0, 0), -1);
            check.due("b", x.lorry(0, 1, 0, wrong, 0, 0, 0), -1);
            check.due("c", x.lorry(0, 1, 0, 0, wrong, 0, 0), -1);
            check.due("d", x.lorry(0, 1, 0, 0, 0, wrong, 0), -1);
            check.due("e", x.lorry(0, 1, 0, 0, 0, 0, wrong), -1);
        }
        check.due("about(1)", x.about(1), 0);
        check.due("comes(0)", x.comes(0), 0);
        for (int n = 0; n < 60; n++) {
            check.due("lorry " + n, x.lorry(n % 5, 20000, 1000, 1, 2, 3, 4), n);
            x.strike(n - 1);
        }
        check.due("lorry 60", x.lorry(0, 1, 1, 1, 1, 1, 1), -1);
        check.due("about(1)", x.about(1), 60);
        check.due("brought(4, 0)", x.brought(4, 0), 19801980);
        check.due("brought(4, 1)", x.brought(4, 1), 19801);
        check.due("brought(4, 4)", x.brought(4, 4), 79207);
    }

    private static void strike() {
        SortWorks x = new SortWorks();
        check.due("strike(0)", x.strike(0), false);
        x.lorry(3, 10, 1, 1, 0, 0, 0);
        x.lorry(3, 1, 1, 0, 0, 0, 0);
        check.due("strike(2)", x.strike(2), false);
        check.due("strike(-1)", x.strike(-1), false);
        check.due("strike(MIN)", x.strike(MIN), false);
        check.due("strike(0)", x.strike(0), true);
        check.due("strike(0)", x.strike(0), false);
        check.due("brought(3, 0)", x.brought(3, 0), 1000);
        check.due("comes(1)", x.comes(1), 0);
        check.due("about(1)", x.about(1), 2);
        check.due("the next number", x.lorry(0, 1, 0, 0, 0, 0, 0), 2);
    }

    private static void brought() {
        SortWorks x = new SortWorks();
        x.lorry(0, 100, 2, 1, 0, 0, 0);
        x.lorry(0, 1, 0, 0, 0, 0, 0);
        x.lorry(0, 1, 2, 1, 0, 0, 0);
        check.due("each lorry is cut", x.brought(0, 0), 66666 + 666);
        check.due("brought(0, 1)", x.brought(0, 1), 33333 + 333);
        check.due("brought(0, 2)", x.brought(0, 2), 0);
        check.due("brought(1, 0)", x.brought(1, 0), 0);
        for (int wrong : new int[] {-1, 5, MIN, MAX}) {
            check.due("brought(wrong, 0)", x.brought(wrong, 0), -1);
            check.due("brought(0, wrong)", x.brought(0, wrong), -1);
        }
        SortWorks full = new SortWorks();
        for (int n = 0; n < 60; n++) {
            full.lorry(4, 20000, 1, 0, 0, 0, 0);
        }
        check.due("60 full lorries", full.brought(4, 0), 1200000000);
        check.due("share of all", full.share(4, 0, 10000000), 10000000);
    }

    private static void share() {
        SortWorks x = new SortWorks();
        for (int town = 0; town < 5; town++) {
            x.lorry(town, 1, 1, town == 2 ? 0 : 1, 0, 0, 0);
        }
        x.lorry(2, 9, 0, 0, 1, 0, 0);
        x.lorry(1, 1, 0, 0, 1, 0, 0);
        x.inflow(2, 5);
        for (int town = 0; town < 5; town++) {
            check.due("alike, 2 left", x.share(town, 1, 10), town == 2 ? 0 : town < 2 ? 3 : 2);
        }
        int[] shares = {0, 1, 8, 0, 0};
        for (int town = 0; town < 5; town++) {
            check.due("by kind 2", x.share(town, 2, 9), shares[town]);
            check.due("by a kind that none has", x.share(town, 4, 10000000), 0);
            check.due("a sum of 0", x.share(town, 2, 0), 0);
        }
        SortWorks y = new SortWorks();
        y.lorry(4, 3, 1, 0, 0, 0, 0);
        y.lorry(0, 2, 1, 0, 0, 0, 0);
        y.lorry(1, 2, 1, 0, 0, 0, 0);
        check.due("the greatest rest", y.share(4, 0, 1), 1);
        check.due("the greatest rest", y.share(0, 0, 1), 0);
        check.due("the least number", y.share(0, 0, 2), 1);
        check.due("the least number", y.share(1, 0, 2), 0);
        y.strike(0);
        check.due("struck", y.share(4, 0, 2), 0);
        check.due("struck", y.share(1, 0, 2), 1);
        check.due("sum -1", x.share(0, 0, -1), -1);
        check.due("sum 10000001", x.share(0, 0, 10000001), -1);
        for (int wrong : new int[] {-1, 5, MIN, MAX}) {
            check.due("share(wrong, 0, 1)", x.share(wrong, 0, 1), -1);
            check.due("share(0, wrong, 1)", x.share(0, wrong, 1), -1);
        }
    }

    private static void about() {
        SortWorks x = planned(RING + "grade 3 0 1 1;grade 3 0 2 1;grade 3 0 3 1;grade 3 0 4 1;", 3);
        x.lorry(0, 1, 0, 0, 0, 0, 0);
        x.feed(0, 0, 0, 0, 0);
        x.cost(55);
        int[][] rows = {{0, 3}, {1, 1}, {2, 55}, {3, 20}, {4, -1}, {9, -1}, {10, 2}, {11, 1}, {12, 0}, {13, 4}, {14, -1},
            {-1, -1}, {MIN, -1}, {MAX, -1}};
        for (int[] row : rows) {
            check.due("about(" + row[0] + ")", x.about(row[0]), row[1]);
        }
    }
}
