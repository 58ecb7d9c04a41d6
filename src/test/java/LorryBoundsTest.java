import java.util.function.Predicate;

/**
 * The boundary cases of LORRIES and shares (part 4 of the terms, promises 20 to 23), of all calls that are
 * refused, and of an object's last call. Each method holds one sentence of the document, which stands above it.
 */
public final class LorryBoundsTest {
    private static final int MIN = Integer.MIN_VALUE;
    private static final int MAX = Integer.MAX_VALUE;
    private static final Check check = new Check("LorryBoundsTest");

    public static void main(String[] args) {
        townsThereAre();
        weights();
        sampledGrams();
        sixtyLorries();
        loadsCut();
        nothingSampled();
        mostOfALorry();
        strikeOnce();
        struckHoldNothing();
        inflowOfLorriesAtMost();
        broughtAtMost();
        sumsToShare();
        sharesCut();
        coinsThatAreLeft();
        likeRests();
        nobodyHasAny();
        sharesOfTheGreatest();
        sharesAddUp();
        refusedCallsDoNothing();
        askingChangesNothing();
        lastCall();
        check.finish();
    }

    private static int lorryOf(SortWorks x, int town, int weight, int kind, int sampled) {
        return x.lorry(town, weight, kind == 0 ? sampled : 0, kind == 1 ? sampled : 0, kind == 2 ? sampled : 0,
            kind == 3 ? sampled : 0, kind == 4 ? sampled : 0);
    }

    // "LORRIES .. are of TOWNS 0 .. 4"; "NONE if one can't be"
    private static void townsThereAre() {
        SortWorks x = new SortWorks();
        for (int town = 0; town < 5; town++) {
            check.due("lorry(" + town + ", ..)", x.lorry(town, 1, 1, 0, 0, 0, 0), town);
            check.due("brought(" + town + ", 0)", x.brought(town, 0), 1000);
            check.due("share(" + town + ", 0, 5)", x.share(town, 0, 5 * (town + 1)), 5);
        }
        for (int wrong : new int[] {-1, -2, 5, 6, MIN, MAX, 1 << 30, 1 << 16}) {
            check.due("lorry(" + wrong + ", ..)", x.lorry(wrong, 1, 1, 0, 0, 0, 0), -1);
            check.due("brought(" + wrong + ", 0)", x.brought(wrong, 0), -1);
            check.due("share(" + wrong + ", 0, 5)", x.share(wrong, 0, 5), -1);
        }
        check.due("about(1)", x.about(1), 5);
    }

    // "of a weight in kilograms (1 .. 20000)"
    private static void weights() {
        SortWorks x = new SortWorks();
        for (int wrong : new int[] {0, -1, 20001, 20002, MIN, MAX}) {
            check.due("weight " + wrong, x.lorry(0, wrong, 1, 1, 1, 1, 1), -1);
        }
        check.due("about(1)", x.about(1), 0);
        check.due("weight 1", x.lorry(0, 1, 1, 0, 0, 0, 0), 0);
        check.due("weight 20000", x.lorry(1, 20000, 1, 0, 0, 0, 0), 1);
        check.due("brought(0, 0)", x.brought(0, 0), 1000);
        check.due("brought(1, 0)", x.brought(1, 0), 20000000);
    }

    // "grams of each KIND that were SAMPLED (0 .. 1000)"
    private static void sampledGrams() {
        for (int kind = 0; kind < 5; kind++) {
            SortWorks x = new SortWorks();
            for (int wrong : new int[] {-1, -1000, 1001, MIN, MAX}) {
                check.due("sampled " + wrong, lorryOf(x, 0, 1, kind, wrong), -1);
            }
            check.due("about(1)", x.about(1), 0);
            check.due("brought", x.brought(0, kind), 0);
            check.due("sampled 0", lorryOf(x, 0, 1, kind, 0), 0);
            check.due("sampled 1", lorryOf(x, 1, 1, kind, 1), 1);
            check.due("sampled 1000", lorryOf(x, 2, 1, kind, 1000), 2);
            check.due("nothing", x.brought(0, kind), 0);
            check.due("all", x.brought(1, kind), 1000);
            check.due("all", x.brought(2, kind), 1000);
            check.due("of no other kind", x.brought(2, (kind + 1) % 5), 0);
        }
        check.due("each at most", new SortWorks().lorry(0, 1, 1000, 1000, 1000, 1000, 1000), 0);
    }

    // "LORRIES, 60 at most"; "its number; NONE, doing nothing, if it can't be, or there are 60"
    private static void sixtyLorries() {
        SortWorks x = new SortWorks();
        for (int number = 0; number < 60; number++) {
            check.due("lorry " + number, x.lorry(number % 5, number + 1, 1, 0, 0, 0, 0), number);
            check.due("about(1)", x.about(1), number + 1);
        }
        check.due("brought(4, 0)", x.brought(4, 0), 390000);
        check.due("the 61st", x.lorry(4, 1, 1, 0, 0, 0, 0), -1);
        check.due("about(1)", x.about(1), 60);
        check.due("brought(4, 0)", x.brought(4, 0), 390000);
        check.due("strike(60)", x.strike(60), false);
        check.due("strike(59)", x.strike(59), true);
        check.due("brought(4, 0)", x.brought(4, 0), 330000);
        check.due("a struck one counts", x.lorry(4, 1, 1, 0, 0, 0, 0), -1);
        check.due("strike(0)", x.strike(0), true);
        check.due("a struck one counts", x.lorry(0, 1, 1, 0, 0, 0, 0), -1);
        check.due("about(1)", x.about(1), 60);
    }

    // "A LORRY holds of each KIND its weight * 1000 * SAMPLED / all SAMPLED, cut"
    private static void loadsCut() {
        SortWorks x = new SortWorks();
        x.lorry(0, 1, 1, 2, 3, 1, 0);
        int[] loads = {142, 285, 428, 142, 0};
        x.lorry(1, 1, 1, 999, 1000, 0, 1);
        int[] others = {0, 499, 499, 0, 0};
        x.lorry(2, 7, 1, 1, 1, 0, 0);
        x.lorry(2, 7, 1, 1, 1, 0, 0);
        for (int kind = 0; kind < 5; kind++) {
            check.due("brought(0, " + kind + ")", x.brought(0, kind), loads[kind]);
            check.due("brought(1, " + kind + ")", x.brought(1, kind), others[kind]);
            check.due("each lorry is cut", x.brought(2, kind), kind < 3 ? 4666 : 0);
        }
    }

    // "(nothing, if nothing was SAMPLED)"
    private static void nothingSampled() {
        SortWorks x = new SortWorks();
        check.due("lorry", x.lorry(3, 20000, 0, 0, 0, 0, 0), 0);
        for (int kind = 0; kind < 5; kind++) {
            check.due("brought(3, " + kind + ")", x.brought(3, kind), 0);
            check.due("comes(" + kind + ")", x.comes(kind), 0);
            check.due("share(3, " + kind + ", 9)", x.share(3, kind, 9), 0);
        }
        check.due("it is a lorry", x.about(1), 1);
        check.due("it may be struck", x.strike(0), true);
        check.due("once", x.strike(0), false);
    }

    /** No product of weight and SAMPLED grams is too great. */
    private static void mostOfALorry() {
        SortWorks x = new SortWorks();
        x.lorry(0, 20000, 1000, 0, 0, 0, 0);
        x.lorry(1, 20000, 1000, 1000, 1000, 1000, 1000);
        x.lorry(2, 20000, 1000, 1, 0, 0, 0);
        check.due("one kind", x.brought(0, 0), 20000000);
        for (int kind = 0; kind < 5; kind++) {
            check.due("five kinds", x.brought(1, kind), 4000000);
        }
        check.due("nearly all", x.brought(2, 0), 19980019);
        check.due("nearly none", x.brought(2, 1), 19980);
    }

    // "It is STRUCK off: true; false if it is so already, or there is none such."
    private static void strikeOnce() {
        SortWorks x = new SortWorks();
        check.due("strike(0) of none", x.strike(0), false);
        x.lorry(0, 1, 1, 0, 0, 0, 0);
        x.lorry(0, 2, 1, 0, 0, 0, 0);
        x.lorry(0, 4, 1, 0, 0, 0, 0);
        for (int wrong : new int[] {3, 4, 59, 60, MAX, -1, -2, MIN}) {
            check.due("strike(" + wrong + ")", x.strike(wrong), false);
        }
        check.due("brought(0, 0)", x.brought(0, 0), 7000);
        check.due("strike(1)", x.strike(1), true);
        check.due("brought(0, 0)", x.brought(0, 0), 5000);
        check.due("strike(1)", x.strike(1), false);
        check.due("brought(0, 0)", x.brought(0, 0), 5000);
        check.due("strike(0)", x.strike(0), true);
        check.due("strike(2)", x.strike(2), true);
        check.due("brought(0, 0)", x.brought(0, 0), 0);
        check.due("a new one is not struck", x.lorry(0, 8, 1, 0, 0, 0, 0), 3);
        check.due("brought(0, 0)", x.brought(0, 0), 8000);
        check.due("strike(3)", x.strike(3), true);
        check.due("about(1)", x.about(1), 4);
    }

    // "INFLOW is the sum of those not STRUCK"; "Grams .. that a TOWN brought in LORRIES not STRUCK"
    private static void struckHoldNothing() {
        SortWorks x = new SortWorks();
        x.lorry(0, 3, 1, 2, 0, 0, 0);
        x.lorry(1, 6, 1, 2, 0, 0, 0);
        check.due("comes(0)", x.comes(0), 3000);
        check.due("comes(1)", x.comes(1), 6000);
        x.strike(0);
        check.due("comes(0)", x.comes(0), 2000);
        check.due("comes(1)", x.comes(1), 4000);
        check.due("brought(0, 1)", x.brought(0, 1), 0);
        check.due("brought(1, 1)", x.brought(1, 1), 4000);
        check.due("share(0, 1, 9)", x.share(0, 1, 9), 0);
        check.due("share(1, 1, 9)", x.share(1, 1, 9), 9);
        x.strike(1);
        check.due("comes(0)", x.comes(0), 0);
        check.due("share(1, 1, 9)", x.share(1, 1, 9), 0);
    }

    // "INFLOW is the sum .. (1000000 of each KIND at most)"
    private static void inflowOfLorriesAtMost() {
        SortWorks x = new SortWorks();
        x.lorry(0, 999, 1, 0, 0, 0, 0);
        check.due("below", x.comes(0), 999000);
        x.lorry(1, 1, 1, 0, 0, 0, 0);
        check.due("just as much", x.comes(0), 1000000);
        x.lorry(2, 1, 1, 0, 0, 0, 999);
        check.due("a gram more", x.comes(0), 1000000);
        check.due("another kind", x.comes(4), 999);
        x.lorry(3, 1, 1, 0, 0, 0, 0);
        x.strike(0);
        check.due("below again", x.comes(0), 2001);
        check.due("what is brought is not cut", x.lorry(4, 20000, 1, 0, 0, 0, 0) == 4 && x.brought(4, 0) == 20000000, true);
        check.due("refuse of it", x.grams(4, 0), 1000000);
        check.due("worth of it", x.worth(), -10000);
    }

    /** 60 LORRIES of the greatest weight, of one KIND, of one TOWN. */
    private static void broughtAtMost() {
        SortWorks x = new SortWorks();
        for (int number = 0; number < 60; number++) {
            x.lorry(4, 20000, 0, 0, 0, 0, 1000);
        }
        check.due("brought(4, 4)", x.brought(4, 4), 1200000000);
        check.due("comes(4)", x.comes(4), 1000000);
        check.due("share(4, 4, most)", x.share(4, 4, 10000000), 10000000);
        check.due("share(0, 4, most)", x.share(0, 4, 10000000), 0);
        SortWorks y = new SortWorks();
        for (int number = 0; number < 60; number++) {
            y.lorry(number % 5, 20000, 1, 0, 0, 0, 0);
        }
        for (int town = 0; town < 5; town++) {
            check.due("brought(" + town + ", 0)", y.brought(town, 0), 240000000);
            check.due("share(" + town + ", 0, 9999999)", y.share(town, 0, 9999999), town < 4 ? 2000000 : 1999999);
        }
        check.due("comes(0)", y.comes(0), 1000000);
    }

    // "a sum (0 .. 10000000)"; "NONE if one can't be"
    private static void sumsToShare() {
        SortWorks x = new SortWorks();
        for (int time = 0; time < 2; time++) {
            for (int wrong : new int[] {-1, -2, MIN, 10000001, 10000002, MAX}) {
                check.due("share(0, 0, " + wrong + ")", x.share(0, 0, wrong), -1);
                check.due("share(0, 1, " + wrong + ") without grams", x.share(0, 1, wrong), -1);
            }
            for (int sum : new int[] {0, 1, 9999999, 10000000}) {
                check.due("share(0, 0, " + sum + ")", x.share(0, 0, sum), time == 0 ? 0 : sum);
            }
            for (int wrong : new int[] {-1, 5, MIN, MAX}) {
                check.due("share of no kind", x.share(0, wrong, 0), -1);
                check.due("share of no town", x.share(wrong, 0, 0), -1);
            }
            x.lorry(0, 1, 1, 0, 0, 0, 0);
        }
    }

    private static void shares(SortWorks x, int kind, int sum, int... due) {
        for (int town = 0; town < 5; town++) {
            check.due("share(" + town + ", " + kind + ", " + sum + ")", x.share(town, kind, sum), due[town]);
        }
    }

    private static SortWorks broughtBy(int... weights) {
        SortWorks x = new SortWorks();
        for (int town = 4; town >= 0; town--) {
            if (weights[town] > 0) {
                x.lorry(town, weights[town], 0, 0, 1, 0, 0);
            }
        }
        return x;
    }

    // "each its part, cut"
    private static void sharesCut() {
        SortWorks x = broughtBy(1, 2, 3, 4, 10);
        shares(x, 2, 0, 0, 0, 0, 0, 0);
        shares(x, 2, 20, 1, 2, 3, 4, 10);
        shares(x, 2, 10000000, 500000, 1000000, 1500000, 2000000, 5000000);
        shares(broughtBy(0, 0, 0, 5, 0), 2, 10000000, 0, 0, 0, 10000000, 0);
        shares(broughtBy(1, 0, 0, 0, 1), 2, 2, 1, 0, 0, 0, 1);
    }

    // "what is left coin by coin to those with the greatest rests"
    private static void coinsThatAreLeft() {
        SortWorks x = broughtBy(1, 2, 3, 4, 10);
        shares(x, 2, 1, 0, 0, 0, 0, 1);
        shares(x, 2, 3, 0, 0, 0, 1, 2);
        shares(x, 2, 19, 1, 2, 3, 4, 9);
        shares(x, 2, 18, 1, 2, 3, 3, 9);
        shares(broughtBy(6, 1, 1, 1, 1), 2, 9, 5, 1, 1, 1, 1);
        shares(broughtBy(96, 1, 1, 1, 1), 2, 99, 95, 1, 1, 1, 1);
    }

    // "of like ones the least number"
    private static void likeRests() {
        SortWorks x = broughtBy(1, 1, 1, 1, 1);
        shares(x, 2, 1, 1, 0, 0, 0, 0);
        shares(x, 2, 2, 1, 1, 0, 0, 0);
        shares(x, 2, 3, 1, 1, 1, 0, 0);
        shares(x, 2, 4, 1, 1, 1, 1, 0);
        shares(x, 2, 5, 1, 1, 1, 1, 1);
        shares(x, 2, 6, 2, 1, 1, 1, 1);
        shares(broughtBy(0, 1, 0, 1, 0), 2, 1, 0, 1, 0, 0, 0);
        shares(broughtBy(0, 0, 0, 3, 3), 2, 9999999, 0, 0, 0, 5000000, 4999999);
        shares(broughtBy(1, 2, 2, 1, 0), 2, 3, 1, 1, 1, 0, 0);
    }

    // "Without such grams nobody has any."
    private static void nobodyHasAny() {
        SortWorks x = broughtBy(1, 1, 1, 1, 1);
        shares(x, 0, 10000000, 0, 0, 0, 0, 0);
        for (int lorry = 0; lorry < 5; lorry++) {
            x.strike(lorry);
        }
        shares(x, 2, 10000000, 0, 0, 0, 0, 0);
        x.inflow(2, 1000000);
        shares(x, 2, 10000000, 0, 0, 0, 0, 0);
        shares(new SortWorks(), 4, 10000000, 0, 0, 0, 0, 0);
        SortWorks light = new SortWorks();
        light.lorry(0, 1, 1, 1000, 1000, 0, 0);
        check.due("a load that is cut to nothing", light.brought(0, 0), 0);
        shares(light, 0, 5, 0, 0, 0, 0, 0);
        light.lorry(1, 1, 1, 999, 0, 0, 0);
        check.due("a single gram", light.brought(1, 0), 1);
        shares(light, 0, 5, 0, 5, 0, 0, 0);
    }

    /** No product of a sum and grams is too great, and a rest of a single gram counts. */
    private static void sharesOfTheGreatest() {
        SortWorks x = new SortWorks();
        for (int number = 0; number < 59; number++) {
            x.lorry(number < 30 ? 0 : 3, 20000, 1, 0, 0, 0, 0);
        }
        x.lorry(1, 1, 1, 0, 0, 0, 0);
        shares(x, 0, 10000000, 5084741, 9, 0, 4915250, 0);
        shares(x, 0, 1, 1, 0, 0, 0, 0);
    }

    /** "to the last coin": what TOWNS have is the sum. */
    private static void sharesAddUp() {
        SortWorks x = broughtBy(7, 11, 13, 17, 19);
        for (int sum = 0; sum < 68; sum++) {
            long all = 0;
            for (int town = 0; town < 5; town++) {
                all += x.share(town, 2, sum);
            }
            check.due("shares of " + sum, all, sum);
        }
    }

    /** An object with something of everything; the tape holds the first half of a good text. */
    private static SortWorks rich() {
        SortWorks x = new SortWorks();
        Check.plan(x, "unit drum yes mag no jet;unit mag yes bale 0 no refuse;unit jet yes bale 1 no drum;set drum 50 0 100 0 7;"
            + "set mag 0 0 90 0 0;set mag 0 0 100 10 0;set jet 80 50 0 0 9;grade 0 2 90 100;grade 0 2 50 40;grade 1 0 80 200;");
        x.choose(1, 1);
        x.cost(123);
        x.inflow(2, 100001);
        x.inflow(3, 0);
        x.lorry(0, 900, 5, 1, 1, 1, 0);
        x.lorry(4, 77, 1, 2, 3, 4, 5);
        x.lorry(2, 100, 1, 0, 0, 0, 1);
        x.strike(1);
        Check.feed(x, "unit a yes bale 2 ");
        return x;
    }

    /** What can't be asked shows by what comes of it: the tape's bytes, inflow by hand, which lorries are struck. */
    private static String later(SortWorks x) {
        StringBuilder text = new StringBuilder();
        Check.feed(x, "no refuse;set a 5 5 5 5 5;");
        text.append(x.plan()).append(' ').append(x.strike(0)).append(x.strike(1)).append(x.strike(2)).append(x.strike(3));
        text.append(x.lorry(1, 3, 1, 1, 1, 1, 1)).append(' ');
        for (int kind = 0; kind < 5; kind++) {
            text.append(x.comes(kind)).append(' ').append(x.inflow(kind, -1)).append(x.comes(kind)).append(' ');
        }
        return text.append(x.part(0, 2)).append(' ').append(x.worth()).toString();
    }

    private static void refuses(String call, Predicate<SortWorks> refused) {
        SortWorks x = rich();
        check.due(call + " is refused", refused.test(x), true);
        check.due("state behind " + call, State.of(x), State.of(rich()));
        check.due("what comes later behind " + call, later(x), later(rich()));
    }

    // "NONE, and nothing comes"; "NONE, doing nothing"; "false, doing nothing"; "false if it is so already, or there is none such"
    private static void refusedCallsDoNothing() {
        for (int wrong : new int[] {MIN, -2, -1, 19, 21, 1200, MAX}) {
            refuses("end", x -> x.end(wrong) == -1);
        }
        for (int wrong : new int[] {MIN, -1, 3, 5, MAX}) {
            refuses("choose of no unit", x -> !x.choose(wrong, 0));
            refuses("choose of no setting", x -> !x.choose(1, wrong));
            refuses("strike", x -> !x.strike(wrong));
        }
        refuses("choose(1, 2)", x -> !x.choose(1, 2));
        refuses("choose(0, 1)", x -> !x.choose(0, 1));
        refuses("strike(1)", x -> !x.strike(1));
        for (int wrong : new int[] {MIN, -1, 5, MAX}) {
            refuses("inflow of no kind", x -> !x.inflow(wrong, 5));
            refuses("inflow of no kind by lorries", x -> !x.inflow(wrong, -1));
            refuses("lorry of no town", x -> x.lorry(wrong, 1, 1, 1, 1, 1, 1) == -1);
        }
        for (int wrong : new int[] {MIN, -2, 1000001, MAX}) {
            refuses("inflow", x -> !x.inflow(0, wrong));
            refuses("inflow", x -> !x.inflow(2, wrong));
        }
        for (int wrong : new int[] {MIN, -1, 10000, MAX}) {
            refuses("cost", x -> !x.cost(wrong));
        }
        for (int wrong : new int[] {MIN, -1, 0, 20001, MAX}) {
            refuses("lorry of no weight", x -> x.lorry(0, wrong, 1, 1, 1, 1, 1) == -1);
        }
        for (int wrong : new int[] {MIN, -1, 1001, MAX}) {
            for (int kind = 0; kind < 5; kind++) {
                int sampled = kind;
                refuses("lorry of no sample", x -> lorryOf(x, 0, 1, sampled, wrong) == -1);
            }
        }
        fullTape();
    }

    /** feed() is refused of a full TAPE only; its bytes stay. */
    private static void fullTape() {
        String line = "unit a yes bale 2 no refuse;";
        for (int length : new int[] {1181, 1190, 1200}) {
            SortWorks x = new SortWorks();
            Check.feed(x, " ".repeat(1200));
            x.end(0);
            Check.feed(x, line + " ".repeat(1200 - line.length()));
            x.end(length);
            String before = State.of(x);
            check.due("feed", x.feed(-1, -1, -1, -1, -1), -1);
            check.due("state behind feed", State.of(x), before);
            check.due("plan()", x.plan(), 1);
        }
    }

    /** Calls that only ask leave all as it was, best() but for the CHOICE. */
    private static void askingChangesNothing() {
        SortWorks x = rich();
        String once = State.of(x);
        x.chance(10, 2, 3, 0, 0);
        x.share(0, 0, 10000000);
        check.due("asked twice", State.of(x), once);
        check.due("what comes later", later(x), later(rich()));
        SortWorks y = rich();
        y.best();
        SortWorks z = rich();
        for (int unit = 0; unit < 3; unit++) {
            z.choose(unit, y.unit(unit, 3));
        }
        check.due("best() is a choice", State.of(y), State.of(z));
        check.due("what comes later", later(y), later(z));
    }

    // "An object is used for at most 512 calls after it has been made"
    private static void lastCall() {
        SortWorks x = new SortWorks();
        for (int call = 0; call < 508; call += 4) {
            check.due("feed", x.feed(0x756e6974, 0x20612079, 0x65732061, 0x206e6f20, 0x613b2020), 20);
            check.due("plan()", x.plan(), 1);
            check.due("whole(0)", x.whole(0), 0);
            check.due("best()", x.best(), 0);
        }
        check.due("call 509", x.lorry(0, 1, 1, 0, 0, 0, 0), 0);
        check.due("call 510", x.comes(0), 1000);
        check.due("call 511", x.grams(4, 0), 1000);
        check.due("call 512", x.worth(), -10);
    }
}
