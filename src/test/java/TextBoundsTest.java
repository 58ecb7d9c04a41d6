/**
 * The boundary cases of a PLAN's text and of the calls that tell it (part 1 of the terms, promises 1 to 7).
 * Each method holds one sentence of the document, which stands above it.
 */
public final class TextBoundsTest {
    private static final int MIN = Integer.MIN_VALUE;
    private static final int MAX = Integer.MAX_VALUE;
    private static final int BLANKS = 0x20202020;
    private static final Check check = new Check("TextBoundsTest");
    private static final String[] RESERVED = {"unit", "yes", "no", "set", "grade", "bale", "refuse"};
    private static final String FIVE = "unit a yes a no a;unit b yes a no a;unit c yes a no a;unit d yes a no a;unit e yes a no a;";

    public static void main(String[] args) {
        textOfMostBytes();
        noLines();
        wordsOfLetters();
        wordsOfEightLetters();
        numbersOfDigits();
        numbersOfFiveDigits();
        signs();
        blanks();
        asLongAsCanBe();
        noLetterBehindANumber();
        noNames();
        fiveUnits();
        threeSettings();
        fourGrades();
        setsOfMostBytes();
        allAtOnce();
        numbersOfBales();
        numbersOfSet();
        numbersOfGrade();
        firstByPlace();
        placeOfTheEnd();
        leastAtOnePlace();
        tokensThatCannotStand();
        unitsToldAlready();
        gradesOfAnotherKind();
        puritiesToldAlready();
        namesOfNoUnit();
        unitWithoutASetting();
        unitsAndSettingsAsTold();
        newObject();
        feedOfTwenty();
        feedOfTooMany();
        endOfTape();
        planEmptiesTheTape();
        nothingOfEarlierPlans();
        planWithAFault();
        faultOfTheLatestPlan();
        unitsThereAre();
        settingsThereAre();
        aboutOfWhat();
        check.finish();
    }

    private static SortWorks reads(String text, int units) {
        SortWorks x = new SortWorks();
        check.due("plan() of " + text, Check.plan(x, text), units);
        check.due("fault(0) of " + text, x.fault(0), 0);
        check.due("fault(1) of " + text, x.fault(1), -1);
        check.due("about(0) of " + text, x.about(0), units);
        return x;
    }

    private static void fails(String text, int fault, int place) {
        SortWorks x = new SortWorks();
        check.due("plan() of " + text, Check.plan(x, text), -1);
        check.due("fault(0) of " + text, x.fault(0), fault);
        check.due("fault(1) of " + text, x.fault(1), place);
        check.due("about(0) of " + text, x.about(0), 0);
    }

    private static String blanksBefore(String text) {
        return " ".repeat(1200 - text.length()) + text;
    }

    private static boolean isLetter(int sign) {
        return sign >= 'a' && sign <= 'z';
    }

    private static boolean isDigit(int sign) {
        return sign >= '0' && sign <= '9';
    }

    // "A PLAN is a text of at most 1,200 bytes"
    private static void textOfMostBytes() {
        String line = "unit a yes bale 0 no refuse;";
        SortWorks x = reads(blanksBefore(line), 1);
        check.due("the last byte is read", x.unit(0, 2), 20);
        reads(line + " ".repeat(1200 - line.length()), 1);
        fails(blanksBefore("?"), 1, 1199);
        fails(blanksBefore(line.replace(";", "")), 2, 1200);
        fails(blanksBefore(line + "unit b yes z no a;"), 6, 1200 - 7);
    }

    // "plan = {line}"
    private static void noLines() {
        check.due("plan() of nothing", new SortWorks().plan(), 0);
        reads("", 0);
        reads(" ", 0);
        reads("\n", 0);
        reads("grade 0 0 0 0;", 0);
        SortWorks x = reads("unit a yes a no a;grade 1 1 1 1;", 1);
        check.due("plan() of nothing", x.plan(), 0);
        check.due("no unit is left", x.unit(0, 0), -1);
        check.due("no grade is left", x.about(11), 0);
        check.due("no ring is left", x.whole(0), 1);
    }

    // "words (a .. z ..)": each byte where a NAME is due
    private static void wordsOfLetters() {
        for (int sign = 0; sign < 256; sign++) {
            String text = "unit ? yes ? no refuse;".replace('?', (char) sign);
            if (isLetter(sign)) {
                check.due("letter " + sign, reads(text, 1).unit(0, 1), 0);
            } else if (sign == ' ' || sign == '\n') {
                fails(text, 2, 7);
            } else if (isDigit(sign) || sign == ';') {
                fails(text, 2, 5);
            } else {
                fails(text, 1, 5);
            }
        }
    }

    // "words (.. 8 at most)"
    private static void wordsOfEightLetters() {
        reads("unit aaaaaaaa yes aaaaaaaa no zzzzzzzz;unit zzzzzzzz yes bale 0 no refuse;", 2);
        reads("unit aaaaaaaa yes aaaaaaab no aaaaaaa;unit aaaaaaab yes bale 0 no refuse;unit aaaaaaa yes bale 1 no refuse;", 3);
        fails("unit aaaaaaaaa yes", 1, 5);
        fails("unit a yes aaaaaaaaa", 1, 11);
        fails("unit a yes a no aaaaaaaaa", 1, 16);
        fails("set aaaaaaaaa 0", 1, 4);
        fails("aaaaaaaaa", 1, 0);
        fails("unit a refusebale", 1, 7);
        fails("a".repeat(1200), 1, 0);
        // a run whose last eight letters are those of another NAME, or whose last ones are a word of the plan
        fails("unit bcdefghi yes abcdefghi no refuse;", 1, 18);
        fails("xxxxxxxxunit a", 1, 0);
    }

    // "numbers (1 to 5 digits)": each byte where a number is due
    private static void numbersOfDigits() {
        for (int sign = 0; sign < 256; sign++) {
            String text = "grade 0 0 ? 0;".replace('?', (char) sign);
            if (isDigit(sign)) {
                check.due("digit " + sign, reads(text, 0).about(10), 1);
                fails(text + text, 5, 24);
            } else if (sign == ' ' || sign == '\n') {
                fails(text, 2, 13);
            } else if (isLetter(sign) || sign == ';') {
                fails(text, 2, 10);
            } else {
                fails(text, 1, 10);
            }
        }
    }

    // "numbers (1 to 5 digits)"
    private static void numbersOfFiveDigits() {
        SortWorks x = reads("unit a yes bale 00003 no bale 3;set a 00100 0100 00000 00001 00099;grade 3 4 00100 09999;", 1);
        int[] row = {100, 100, 0, 1, 99};
        for (int kind = 0; kind < 5; kind++) {
            check.due("setting(0, 0, " + kind + ")", x.setting(0, 0, kind), row[kind]);
        }
        check.due("unit(0, 1)", x.unit(0, 1), 13);
        fails("grade 0 0 0 000000;", 1, 12);
        fails("grade 000000 0 0 0;", 1, 6);
        fails("set a 000100 0 0 0 0;", 1, 6);
        fails("grade 0 0 0 99999;", 4, 12);
        fails("grade 0 0 0 100000;", 1, 12);
        fails("9".repeat(1200), 1, 0);
        fails("grade 0 0 0 4294967296;", 1, 12);
    }

    // "sign ;": each byte where it is due
    private static void signs() {
        for (int sign = 0; sign < 256; sign++) {
            String text = "grade 0 0 0 0 " + (char) sign;
            if (sign == ';') {
                reads(text, 0);
            } else if (sign == ' ' || sign == '\n') {
                fails(text, 2, 15);
            } else {
                fails(text, isLetter(sign) || isDigit(sign) ? 2 : 1, 14);
            }
        }
        fails("grade 0 0 0 0;;", 2, 14);
    }

    // "blanks (32, 10) part them or not"
    private static void blanks() {
        reads("unit a yes bale0 no bale1;set a0 1 2 3 4;grade0 0 0 0;", 1);
        reads("\n\nunit \n a\nyes\nbale\n0\nno\n\nrefuse\n;\n \nset\na\n0\n0\n0\n0\n0\n;\n", 1);
        for (int sign = 0; sign < 256; sign++) {
            if (sign == ' ' || sign == '\n') {
                reads((char) sign + "grade 0 0 0 0" + (char) sign + ";" + (char) sign, 0);
            } else if (!isLetter(sign) && !isDigit(sign) && sign != ';') {
                fails((char) sign + "grade 0 0 0 0;", 1, 0);
                fails("grade" + (char) sign + "0 0 0 0;", 1, 5);
                fails("grade 0 0 0 0;" + (char) sign, 1, 14);
            }
        }
    }

    // "each is as long as can be"
    private static void asLongAsCanBe() {
        fails("unita yes a no a;", 2, 0);
        fails("unit ayes a no a;", 2, 10);
        fails("unit a yesa no a;", 2, 7);
        fails("unit a yes ano a;", 2, 15);
        fails("seta 0 0 0 0 0;", 2, 0);
        fails("grade 0 0 100;", 2, 13);
        fails("set a 0 0 0 00;", 2, 14);
        fails("grades 0 0 0 0;", 2, 0);
        check.due("longer than a word of the plan", reads("unit refuses yes bales no nos;unit bales yes refuse no refuse;"
            + "unit nos yes sets no refuses;unit sets yes bale 0 no refuse;", 4).unit(2, 2), 0);
        check.due("shorter than a word of the plan", reads("unit refus yes bal no n;unit bal yes refuse no refuse;"
            + "unit n yes se no refus;unit se yes bale 0 no refuse;", 4).unit(0, 1), 1);
        check.due("ten, not one and nought", reads("unit a yes a no a;set a 10 0 0 0 0;", 1).setting(0, 0, 0), 10);
    }

    // "no letter directly behind a number": each byte there
    private static void noLetterBehindANumber() {
        for (int sign = 0; sign < 256; sign++) {
            String text = "grade 0 0 0 7" + (char) sign;
            if (sign == ';') {
                reads(text, 0);
            } else if (isLetter(sign)) {
                fails(text, 1, 12);
            } else if (isDigit(sign) || sign == ' ' || sign == '\n') {
                fails(text, 2, 14);
            } else {
                fails(text, 1, 13);
            }
        }
        fails("unit a yes bale 0no refuse;", 1, 16);
        fails("set a 0 0 0 0 0unit", 1, 14);
        fails("7a", 1, 0);
        fails("unit 7a", 1, 5);
        fails("unit a7", 2, 6);
    }

    // "unit yes no set grade bale refuse are no NAMES."
    private static void noNames() {
        for (String word : RESERVED) {
            fails("unit " + word + " yes refuse no refuse;", 2, 5);
            fails("set " + word + " 0 0 0 0 0;", 2, 4);
            boolean out = word.equals("bale") || word.equals("refuse");
            fails("unit a yes " + word + " yes", 2, out ? 12 + word.length() : 11);
            fails("unit a yes a no " + word + " unit", 2, out ? 17 + word.length() : 16);
        }
    }

    // "At most 5 UNITS"; "2 .. (a 6th UNIT ..: at its first word ..)"
    private static void fiveUnits() {
        reads(FIVE, 5);
        fails(FIVE + "unit f yes a no a;", 2, FIVE.length());
        fails(FIVE + "\n unit f yes a no a;", 2, FIVE.length() + 2);
        fails(FIVE + "unit a yes a no a;", 2, FIVE.length());
        fails(FIVE + "unit", 2, FIVE.length());
        fails(FIVE + "unit?", 2, FIVE.length());
        fails(FIVE.replace("yes a no a;unit e", "yes z no a;unit e") + "unit z yes a no a;", 2, FIVE.length());
        fails(FIVE + "units", 2, FIVE.length());
    }

    // "At most .. 3 SETTINGS of each"; "2 .. (.. a 4th SETTING ..: .. of a SETTING .. at its NAME ..)"
    private static void threeSettings() {
        String set = "set a 1 2 3 4 5;";
        SortWorks x = reads(FIVE + set + set + set, 5);
        check.due("three", x.unit(0, 0), 3);
        check.due("setting(0, 2, 4)", x.setting(0, 2, 4), 5);
        check.due("setting(0, 3, 0)", x.setting(0, 3, 0), -1);
        check.due("of another unit", x.unit(1, 0), 1);
        int place = FIVE.length() + 3 * set.length();
        fails(FIVE + set + set + set + set, 2, place + 4);
        fails(FIVE + set + set + set + "set \n a 101", 2, place + 6);
        fails(FIVE + set + set + set + "set a", 2, place + 4);
        fails(FIVE + set + set + set + "set", 2, place + 3);
        fails(set + set + set + set + FIVE, 2, 3 * set.length() + 4);
        reads(FIVE + set + set + set + "set b 0 0 0 0 0;set e 0 0 0 0 0;", 5);
        reads(set + FIVE + set + "set b 0 0 0 0 0;" + set, 5);
    }

    // "At most .. 4 grades of each BALE"; "2 .. (.. a 5th grade: .. of a .. grade, at its .. B)"
    private static void fourGrades() {
        for (int bale = 0; bale < 4; bale++) {
            String four = "";
            for (int purity = 0; purity < 4; purity++) {
                four += "grade " + bale + " 4 " + purity + " 5;";
            }
            check.due("four", reads(four, 0).about(10 + bale), 4);
            int place = four.length() + 6;
            fails(four + "grade " + bale + " 4 9 5;", 2, place);
            fails(four + "grade \n" + bale + " 3 1 5;", 2, place + 1);
            fails(four + "grade 0000" + bale, 2, place);
            fails(four + "grade " + bale + "?", 2, place);
            fails(four + "grade ", 2, place);
            reads(four + "grade " + (bale + 1) % 4 + " 0 0 0;", 0);
        }
    }

    /** As many SETTINGS of different NAMES as a text can hold, the 80th of them cut off by its end. */
    private static void setsOfMostBytes() {
        StringBuilder text = new StringBuilder();
        for (int line = 0; line < 78; line++) {
            text.append("set ").append((char) ('a' + line % 26)).append("0 0 0 0 0;");
        }
        fails(text + "set aa0 0 0 0 0;", 6, 4);
        fails(text + "set aa0 0 0 0 0;set ab0 0 0 0 ", 2, 1200);
        fails(text + "set z0 0 0 0 0;", 2, 1174);
    }

    /** As many UNITS, SETTINGS and grades as there may be, in one text. */
    private static void allAtOnce() {
        StringBuilder text = new StringBuilder();
        for (int unit = 0; unit < 5; unit++) {
            for (int setting = 0; setting < 3; setting++) {
                text.append("set ").append((char) ('a' + unit)).append(unit).append(' ').append(setting).append(" 7 8 100;");
            }
        }
        text.append(FIVE);
        for (int grade = 0; grade < 16; grade++) {
            text.append("grade ").append(grade % 4).append(' ').append(grade % 4).append(' ').append(100 - grade).append(" 9999;");
        }
        SortWorks x = reads(text.toString(), 5);
        for (int unit = 0; unit < 5; unit++) {
            check.due("unit(" + unit + ", 0)", x.unit(unit, 0), 3);
            for (int setting = 0; setting < 3; setting++) {
                check.due("setting, kind 0", x.setting(unit, setting, 0), unit);
                check.due("setting, kind 1", x.setting(unit, setting, 1), setting);
                check.due("setting, kind 4", x.setting(unit, setting, 4), 100);
            }
        }
        for (int bale = 0; bale < 4; bale++) {
            check.due("about(" + (10 + bale) + ")", x.about(10 + bale), 4);
        }
    }

    // "B 0 .. 3"; "4 a number that can't be"
    private static void numbersOfBales() {
        for (int bale = 0; bale < 4; bale++) {
            SortWorks x = reads("unit a yes bale " + bale + " no bale " + (3 - bale) + ";grade " + bale + " 0 0 0;", 1);
            check.due("unit(0, 1)", x.unit(0, 1), 10 + bale);
            check.due("unit(0, 2)", x.unit(0, 2), 13 - bale);
            check.due("its grade", x.about(10 + bale), 1);
        }
        for (String wrong : new String[] {"4", "00004", "5", "10", "99999"}) {
            fails("unit a yes bale " + wrong + " no refuse;", 4, 16);
            fails("unit a yes refuse no bale " + wrong + ";", 4, 26);
            fails("grade " + wrong + " 0 0 0;", 4, 6);
        }
    }

    // "set's N 0 .. 100"
    private static void numbersOfSet() {
        for (int kind = 0; kind < 5; kind++) {
            for (int n : new int[] {0, 1, 99, 100, 101, 102, 99999}) {
                String before = "unit a yes a no a;set a " + "0 ".repeat(kind);
                String text = before + n + " 0".repeat(4 - kind) + ";";
                if (n > 100) {
                    fails(text, 4, before.length());
                } else {
                    check.due("setting(0, 0, " + kind + ")", reads(text, 1).setting(0, 0, kind), n);
                }
            }
        }
    }

    // "of grade the K is a KIND, the first N a purity 0 .. 100, the second a price 0 .. 9999"
    private static void numbersOfGrade() {
        reads("grade 0 0 0 0;grade 1 4 100 9999;", 0);
        fails("grade 0 5 0 0;", 4, 8);
        fails("grade 0 99999 0 0;", 4, 8);
        fails("grade 0 0 101 0;", 4, 10);
        fails("grade 0 0 99999 0;", 4, 10);
        fails("grade 0 0 0 10000;", 4, 12);
        fails("grade 0 0 0 99999;", 4, 12);
        SortWorks x = reads("unit a yes a no bale 0;grade 0 4 100 9999;", 1);
        x.inflow(4, 1000);
        check.due("the greatest price", x.earns(0), 9999);
        x.inflow(0, 1);
        check.due("a purity of 99", x.purity(0), 99);
        check.due("is below 100", x.earns(0), 0);
    }

    // "FAULTS, the first by its place": one of each number before one of another
    private static void firstByPlace() {
        String one = "?";
        String two = "yes";
        String three = "unit a yes a no a;unit a";
        String four = "grade 0 0 101 0;";
        String five = "grade 0 0 1 0;grade 0 0 1 0;";
        String[] texts = {one, two, three, four, five};
        int[] places = {0, 0, 23, 10, 24};
        for (int first = 0; first < 5; first++) {
            for (String second : texts) {
                fails(texts[first] + " " + second, first + 1, places[first]);
                fails("unit x yes y no z; " + texts[first] + " " + second, first + 1, places[first] + 19);
            }
        }
    }

    // "(bytes from 0; the end: the text's length)"
    private static void placeOfTheEnd() {
        String line = "unit abc yes bale 3 no refuse;set abc 1 2 3 4 5;grade 3 2 50 100;";
        reads(line, 1);
        fails("?" + line, 1, 0);
        for (int end = 1; end < line.length(); end++) {
            String text = line.substring(0, end);
            char last = text.charAt(end - 1);
            boolean whole = end == 30 || end == 48;
            boolean cutWord = isLetter(last) && isLetter(line.charAt(end));
            if (whole) {
                reads(text, 1);
            } else if (!cutWord) {
                fails(text, 2, end);
                fails(text + " \n ", 2, end + 3);
            } else {
                SortWorks x = new SortWorks();
                check.due("plan() of a cut word: " + text, Check.plan(x, text), -1);
                check.due("fault(0) of " + text, x.fault(0), 2);
            }
        }
    }

    // "at one place the least"
    private static void leastAtOnePlace() {
        fails("grade 0 1 2 3;grade 0 5 2 3;", 4, 22);
        fails("grade 0 1 2 3;grade 0 4 2 3;", 5, 22);
        fails("grade 0 1 2 3;grade 0 1 101 3;", 4, 24);
        fails("unit ?", 1, 5);
        fails("unit aaaaaaaaa", 1, 5);
        fails("unit 123456", 1, 5);
        fails("grade aaaaaaaaa", 1, 6);
        fails("grade 123456", 1, 6);
        fails("grade 4x", 1, 6);
        fails("unit 99999", 2, 5);
        String four = "grade 0 0 0 0;grade 0 0 1 0;grade 0 0 2 0;grade 0 0 3 0;";
        fails(four + "grade 0x", 1, four.length() + 6);
        fails(four + "grade 4", 4, four.length() + 6);
    }

    // "2 one that can't stand there": each TOKEN at each place of each line
    private static void tokensThatCannotStand() {
        String[] lines = {"unit NAME yes OUT no OUT ;", "set NAME N N N N N ;", "grade N N N N ;"};
        String[] tokens = {"unit", "yes", "no", "set", "grade", "bale", "refuse", "x", "1", ";"};
        for (String line : lines) {
            String[] wants = line.split(" ");
            String before = "";
            for (int at = 0; at <= wants.length; at++) {
                String want = at < wants.length ? wants[at] : "LINE";
                for (String token : tokens) {
                    boolean stands = want.equals(token) || want.equals("N") && token.equals("1") || want.equals("NAME") && token.equals("x")
                        || want.equals("OUT") && (token.equals("x") || token.equals("bale") || token.equals("refuse"))
                        || (at == 0 || want.equals("LINE")) && (token.equals("unit") || token.equals("set") || token.equals("grade"));
                    if (!stands) {
                        fails(before + token + " ?", 2, before.length());
                    } else {
                        fails(before + token + " ?", 1, before.length() + token.length() + 1);
                    }
                }
                before += want.replace("NAME", "x").replace("OUT", "x").replace("N", "1") + " ";
            }
        }
        for (String token : tokens) {
            if (!token.equals("1")) {
                fails("unit a yes bale " + token, 2, 16);
                fails("unit a yes a no bale " + token, 2, 21);
            }
        }
    }

    // "3 a UNIT told already: at its NAME"
    private static void unitsToldAlready() {
        fails("unit a yes a no a;unit a yes a no a;", 3, 23);
        fails("unit a yes a no a;unit \n\n a", 3, 26);
        fails("unit a yes b no b;unit b yes a no a;unit b yes a no a;", 3, 41);
        fails("unit b yes b no b;unit a yes a no a;unit b", 3, 41);
        reads("unit a yes a no a;unit aa yes a no a;unit ab yes a no a;", 3);
        reads("set a 1 1 1 1 1;unit b yes a no a;unit a yes b no b;", 2);
        String four = FIVE.substring(0, 72);
        fails(four + "unit d", 3, 77);
    }

    // "5 a grade of a BALE with another KIND than its first one ..: at that number"
    private static void gradesOfAnotherKind() {
        for (int kind = 0; kind < 5; kind++) {
            String first = "grade 2 " + kind + " 50 1;";
            for (int other = 0; other < 5; other++) {
                String second = first + "grade 2 " + other + " 51 1;";
                if (other == kind) {
                    reads(second, 0);
                } else {
                    fails(second, 5, 23);
                }
                reads(first + "grade 1 " + other + " 50 1;", 0);
            }
        }
        fails("grade 2 3 50 1;grade 2 3 51 1;grade 2 2 52 1;", 5, 38);
        fails("grade 2 3 50 1;grade 1 2 51 1;grade 2 2 52 1;", 5, 38);
    }

    // "5 .. or a purity that its grades have: at that number"
    private static void puritiesToldAlready() {
        String three = "grade 0 0 0 1;grade 0 0 50 1;grade 0 0 100 1;";
        reads(three + "grade 0 0 99 1;", 0);
        fails(three + "grade 0 0 0 2;", 5, three.length() + 10);
        fails(three + "grade 0 0 050 2;", 5, three.length() + 10);
        fails(three + "grade 0 0 100 ?", 5, three.length() + 10);
        reads(three + "grade 1 0 50 1;", 0);
        reads("grade 0 0 50 1;", 0);
    }

    // "if there is none of these the first by place: 6 a NAME of no UNIT (it may be told behind)"
    private static void namesOfNoUnit() {
        fails("unit a yes b no a;", 6, 11);
        fails("unit a yes a no b;", 6, 16);
        fails("set b 0 0 0 0 0;", 6, 4);
        fails("unit a yes a no a;set b 0 0 0 0 0;", 6, 22);
        fails("unit a yes y no z;set x 0 0 0 0 0;", 6, 11);
        fails("set x 0 0 0 0 0;unit a yes y no z;", 6, 4);
        fails("unit a yes b no z;unit b yes z no y;", 6, 16);
        fails("unit a yes b no a;grade 0 0 0 0;grade 1 0 0", 2, 43);
        reads("set b 1 0 0 0 0;unit a yes b no b;unit b yes a no refuse;", 2);
        reads("unit a yes b no c;unit c yes b no a;unit b yes a no refuse;", 3);
    }

    // "A UNIT without a SETTING has one by which nothing goes by yes."
    private static void unitWithoutASetting() {
        SortWorks x = reads("unit a yes bale 0 no bale 1;unit b yes a no a;set b 9 9 9 9 9;", 2);
        check.due("it has one", x.unit(0, 0), 1);
        check.due("it is chosen", x.unit(0, 3), 0);
        check.due("it may be chosen", x.choose(0, 0), true);
        check.due("no other", x.choose(0, 1), false);
        for (int kind = 0; kind < 5; kind++) {
            check.due("setting(0, 0, kind)", x.setting(0, 0, kind), 0);
            check.due("setting(0, 1, kind)", x.setting(0, 1, kind), -1);
            check.due("nothing by yes", x.part(kind, 0), 0);
            check.due("all by no", x.part(kind, 1), x.whole(kind));
        }
        check.due("one that is told is no second", x.unit(1, 0), 1);
    }

    // "UNITS (numbered as they are told) .. SETTINGS .. (numbered from 0 on as they are told)"
    private static void unitsAndSettingsAsTold() {
        SortWorks x = reads("set z 3 0 0 0 0;unit z yes m no a;set a 5 0 0 0 0;unit m yes bale 0 no refuse;set z 1 0 0 0 0;"
            + "unit a yes z no m;set z 2 0 0 0 0;", 3);
        int[][] leads = {{1, 2}, {10, 20}, {0, 1}};
        for (int unit = 0; unit < 3; unit++) {
            check.due("yes of " + unit, x.unit(unit, 1), leads[unit][0]);
            check.due("no of " + unit, x.unit(unit, 2), leads[unit][1]);
        }
        int[] first = {3, 1, 2};
        for (int setting = 0; setting < 3; setting++) {
            check.due("setting " + setting, x.setting(0, setting, 0), first[setting]);
        }
        check.due("setting(2, 0, 0)", x.setting(2, 0, 0), 5);
        check.due("setting(1, 0, 0)", x.setting(1, 0, 0), 0);
    }

    // "No PLAN, no LORRIES."
    private static void newObject() {
        SortWorks x = new SortWorks();
        for (int what : new int[] {0, 1, 3, 10, 11, 12, 13}) {
            check.due("about(" + what + ")", x.about(what), 0);
        }
        check.due("unit(0, 0)", x.unit(0, 0), -1);
        check.due("setting(0, 0, 0)", x.setting(0, 0, 0), -1);
        check.due("choose(0, 0)", x.choose(0, 0), false);
        check.due("strike(0)", x.strike(0), false);
        check.due("end(1)", x.end(1), -1);
        SortWorks other = reads(FIVE, 5);
        other.lorry(0, 1, 1, 1, 1, 1, 1);
        check.due("another object has none of it", State.of(new SortWorks()), State.of(x));
    }

    // "Twenty bytes come behind those on the TAPE, of each number the highest first: how many there are"
    private static void feedOfTwenty() {
        for (int at = 0; at < 20; at++) {
            SortWorks x = new SortWorks();
            int[] numbers = {BLANKS, BLANKS, BLANKS, BLANKS, BLANKS};
            numbers[at / 4] ^= 0xdf << 24 - at % 4 * 8;
            check.due("feed", x.feed(numbers[0], numbers[1], numbers[2], numbers[3], numbers[4]), 20);
            check.due("plan()", x.plan(), -1);
            check.due("byte " + at, x.fault(1), at);
            check.due("behind those on the tape", x.feed(MIN, MAX, -1, 0, 1), 40);
            x.end(at);
            check.due("twenty more", x.feed(numbers[0], numbers[1], numbers[2], numbers[3], numbers[4]), at + 20);
            x.plan();
            check.due("behind " + at, x.fault(1), at + at);
        }
    }

    // "NONE, and nothing comes, if there would be more than 1,200"
    private static void feedOfTooMany() {
        for (int left = 0; left <= 21; left++) {
            SortWorks x = new SortWorks();
            for (int times = 1; times <= 60; times++) {
                check.due("feed " + times, x.feed(BLANKS, BLANKS, BLANKS, BLANKS, BLANKS), 20 * times);
            }
            check.due("end", x.end(1200 - left), 1200 - left);
            check.due("feed with room for " + left, x.feed(-1, -1, -1, -1, -1), left < 20 ? -1 : 1220 - left);
            check.due("about(3)", x.about(3), left < 20 ? 1200 - left : 1220 - left);
            check.due("plan()", x.plan(), left < 20 ? 0 : -1);
            check.due("fault(1)", x.fault(1), left < 20 ? -1 : 1200 - left);
        }
    }

    // "The TAPE has its first n bytes: n; NONE, doing nothing, if it has not so many, or n is below 0."
    private static void endOfTape() {
        SortWorks x = new SortWorks();
        check.due("end(0) of no bytes", x.end(0), 0);
        check.due("end(1) of no bytes", x.end(1), -1);
        Check.feed(x, "grade 0 0 0 0;grade 1 0 0 0;");
        for (int wrong : new int[] {29, 30, 1200, 1201, MAX, -1, -2, MIN}) {
            check.due("end(" + wrong + ")", x.end(wrong), -1);
            check.due("about(3)", x.about(3), 28);
        }
        check.due("end(28)", x.end(28), 28);
        check.due("end(14)", x.end(14), 14);
        check.due("end(15)", x.end(15), -1);
        check.due("plan() of the first bytes", x.plan(), 0);
        check.due("the first grade", x.about(10), 1);
        check.due("not the second", x.about(11), 0);
        check.due("end(1) of the emptied tape", x.end(1), -1);
        x.feed(-1, -1, -1, -1, -1);
        check.due("end(0)", x.end(0), 0);
        check.due("about(3)", x.about(3), 0);
        check.due("plan()", x.plan(), 0);
    }

    // "The TAPE (empty then) is the PLAN (the CHOICE is the first SETTINGS): how many UNITS"
    private static void planEmptiesTheTape() {
        String[] texts = {"", FIVE.substring(0, 18), FIVE.substring(0, 36), FIVE.substring(0, 54), FIVE.substring(0, 72), FIVE};
        SortWorks x = new SortWorks();
        for (int units = 0; units <= 5; units++) {
            Check.feed(x, texts[units] + (units > 0 ? "set a 1 1 1 1 1;set a 2 2 2 2 2;" : ""));
            check.due("plan()", x.plan(), units);
            check.due("about(0)", x.about(0), units);
            check.due("the tape is empty", x.about(3), 0);
            check.due("the first setting", x.unit(0, 3), units > 0 ? 0 : -1);
            check.due("choose", x.choose(0, 1), units > 0);
        }
        check.due("feed", x.feed(BLANKS, BLANKS, BLANKS, BLANKS, BLANKS), 20);
    }

    // "The TAPE .. is the PLAN": nothing of an earlier one, or of a text with a FAULT, is in it
    private static void nothingOfEarlierPlans() {
        String small = "unit a yes a no bale 3;set a 1 1 1 1 1;grade 3 0 50 1000;";
        String bare = "unit a yes bale 0 no bale 3;";
        String large = FIVE + "set a 9 9 9 9 9;set b 8 8 8 8 8;set a 7 7 7 7 7;set a 6 6 6 6 6;"
            + "grade 3 4 0 9;grade 3 4 1 9;grade 3 4 2 9;grade 3 4 3 9;grade 0 1 0 1;";
        String[] texts = {small, bare, large, "unit z yes y no x;", large + "?", "set a 1 2 3 4 5;set nobody 1 2 3 4 5;", "grade 3 0 50 1;;"};
        for (String before : texts) {
            for (String between : texts) {
                for (String text : new String[] {small, bare, large, ""}) {
                    SortWorks x = new SortWorks();
                    Check.plan(x, before);
                    Check.plan(x, between);
                    Check.plan(x, text);
                    SortWorks y = new SortWorks();
                    Check.plan(y, text);
                    for (SortWorks works : new SortWorks[] {x, y}) {
                        works.inflow(0, 49000);
                        works.inflow(1, 51000);
                    }
                    check.due(text + " behind " + before + between, State.of(x), State.of(y));
                    check.due("a purity told in an earlier plan", Check.plan(x, "grade 3 2 50 1;"), 0);
                }
            }
        }
    }

    // "NONE: a FAULT (all stays)."
    private static void planWithAFault() {
        String[] wrongs = {"?", "set a 9 9 9 9 9;;", "unit b yes b no b;unit b", "grade 1 1 101 5;", "grade 1 1 1 1;grade 1 1 1 1;",
            "unit b yes b no b;set b 1 1 1 1 1;grade 1 0 0 9999;set nobody 1 1 1 1 1;"};
        for (int fault = 1; fault <= 6; fault++) {
            SortWorks x = reads("unit a yes bale 0 no bale 1;set a 10 20 30 40 50;set a 60 70 80 90 99;grade 0 2 9 70;grade 1 3 8 60;", 1);
            x.choose(0, 1);
            x.inflow(2, 1000000);
            x.inflow(3, 5000);
            x.cost(7);
            x.lorry(3, 4, 1, 2, 3, 4, 5);
            Check.feed(x, wrongs[fault - 1]);
            String before = State.of(x).replaceAll("fault=\\S+ place=\\S+ ", "");
            check.due("plan()", x.plan(), -1);
            check.due("fault(0)", x.fault(0), fault);
            check.due("all stays", State.of(x).replaceAll("fault=\\S+ place=\\S+ ", ""), before);
            check.due("the tape stays", x.about(3), wrongs[fault - 1].length());
            check.due("the same fault again", x.plan(), -1);
            check.due("fault(0)", x.fault(0), fault);
        }
        SortWorks y = new SortWorks();
        Check.plan(y, "unit a yes a");
        Check.feed(y, " no a;");
        check.due("the bytes of the tape stay", y.plan(), 1);
    }

    // "Of the latest plan() what 0: its FAULT (0), 1: its place (NONE). NONE for another what."
    private static void faultOfTheLatestPlan() {
        SortWorks x = new SortWorks();
        String[] texts = {null, "", "  ?", ";", "", "unit a yes a no z;", FIVE};
        int[] faults = {0, 0, 1, 2, 0, 6, 0};
        int[] places = {-1, -1, 2, 0, -1, 16, -1};
        for (int step = 0; step < texts.length; step++) {
            if (texts[step] != null) {
                Check.plan(x, texts[step]);
            }
            check.due("fault(0)", x.fault(0), faults[step]);
            check.due("fault(1)", x.fault(1), places[step]);
            for (int wrong : new int[] {2, 3, -1, MIN, MAX}) {
                check.due("fault(" + wrong + ")", x.fault(wrong), -1);
            }
        }
        Check.plan(x, "?");
        x.end(0);
        x.feed(BLANKS, BLANKS, BLANKS, BLANKS, BLANKS);
        check.due("end and feed leave it", x.fault(0), 1);
        check.due("end and feed leave it", x.fault(1), 0);
    }

    // "Of a UNIT what 0 .. 3 .. NONE if there is none such."
    private static void unitsThereAre() {
        for (int units = 0; units <= 5; units++) {
            SortWorks x = reads(FIVE.substring(0, 18 * units), units);
            for (int unit = -1; unit <= 6; unit++) {
                for (int what = -1; what <= 4; what++) {
                    boolean is = unit >= 0 && unit < units && what >= 0 && what < 4;
                    check.due("unit(" + unit + ", " + what + ") of " + units, x.unit(unit, what), is ? what == 0 ? 1 : 0 : -1);
                }
            }
            for (int wrong : new int[] {MIN, MAX, MIN + 1, 1 << 16, 1 << 30}) {
                check.due("unit(" + wrong + ", 0)", x.unit(wrong, 0), -1);
                check.due("unit(0, " + wrong + ")", x.unit(0, wrong), -1);
            }
        }
    }

    // "What goes by yes of a KIND by a SETTING; NONE if there is none such."
    private static void settingsThereAre() {
        String set = "set b 1 2 3 4 5;";
        for (int settings = 1; settings <= 3; settings++) {
            SortWorks x = reads(FIVE + set.repeat(settings), 5);
            for (int setting = -1; setting <= 4; setting++) {
                for (int kind = -1; kind <= 5; kind++) {
                    boolean is = setting >= 0 && setting < settings && kind >= 0 && kind < 5;
                    check.due("setting(1, " + setting + ", " + kind + ")", x.setting(1, setting, kind), is ? kind + 1 : -1);
                }
                check.due("setting(0, " + setting + ", 0)", x.setting(0, setting, 0), setting == 0 ? 0 : -1);
                check.due("setting(5, " + setting + ", 0)", x.setting(5, setting, 0), -1);
                check.due("setting(-1, " + setting + ", 0)", x.setting(-1, setting, 0), -1);
            }
            for (int wrong : new int[] {MIN, MAX, MIN + 1, 1 << 16, 1 << 30}) {
                check.due("setting(wrong, 0, 0)", x.setting(wrong, 0, 0), -1);
                check.due("setting(1, wrong, 0)", x.setting(1, wrong, 0), -1);
                check.due("setting(1, 0, wrong)", x.setting(1, 0, wrong), -1);
            }
        }
    }

    // "10 + b: grades of BALE b. NONE for another what."
    private static void aboutOfWhat() {
        SortWorks x = reads(FIVE + "grade 0 0 1 1;grade 3 0 1 1;grade 3 0 2 1;", 5);
        x.lorry(0, 1, 1, 1, 1, 1, 1);
        x.lorry(0, 1, 1, 1, 1, 1, 1);
        x.strike(0);
        x.feed(0, 0, 0, 0, 0);
        int[] answers = {5, 2, 10, 20, -1, -1, -1, -1, -1, -1, 1, 0, 0, 2, -1, -1};
        for (int what = 0; what < answers.length; what++) {
            check.due("about(" + what + ")", x.about(what), answers[what]);
        }
        for (int wrong : new int[] {-1, -2, -10, 20, 110, MIN, MIN + 10, MAX, MAX - 10}) {
            check.due("about(" + wrong + ")", x.about(wrong), -1);
        }
    }
}
