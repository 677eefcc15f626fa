/** The edges of THE TEXT, of its numbers and of FAULT: promises 1 to 4, each sentence by itself. */
public final class FalseParityTextEdges extends Checks {
    private static final String SIX_NOTES = "n1 0 0;n1 0 0;n1 0 0;n1 0 0;n1 0 0;n1 0 0;";

    private static void fault(String text, int place) {
        due("country() of \"" + text + "\"", reading(text), -10 - place);
    }

    private static void items(String text, int many) {
        due("country() of \"" + text + "\"", reading(text), many);
    }

    // ---- a new object

    private static void newObject() {
        by("Promise 1: as told; nobody, no NOTES");
        for (int i = 0; i < 6; i++) {
            due("note(" + i + ", 0)", new FalseParity().note(i, 0), BAD);
            due("person(" + i + ", 0)", new FalseParity().person(i, 0), BAD);
            due("passes(" + i + ", 0)", new FalseParity().passes(i, 0), BAD);
            due("rate(0, " + i + ")", new FalseParity().rate(0, i), NO);
        }
        due("soonest(0, -1)", new FalseParity().soonest(0, -1), BAD);
        due("till(0)", new FalseParity().till(0), BAD);
        due("odds(0, 0, 0)", new FalseParity().odds(0, 0, 0), BAD);
        due("saw(0, 1)", new FalseParity().saw(0, 1), BAD);
        due("teaches(0, 0)", new FalseParity().teaches(0, 0), BAD);
        due("sends(0, 1)", new FalseParity().sends(0, 1), BAD);
        same("country() of nothing", answers(told("")), answers(new FalseParity()));
    }

    private static void imagesOfNobody() {
        by("IMAGES 0, 1 keep NOW: of nobody, too");
        FalseParity x = new FalseParity();
        due("back(0)", x.back(0), STATE);
        due("keep(0)", x.keep(0), 0);
        due("back(0)", x.back(0), 0);
        due("back(1)", x.back(1), STATE);
    }

    private static void lastCall() {
        by("An object is used for at most 512 calls");
        FalseParity x = told(FOUR);
        int calls = FOUR.length() + 2;
        for (int turn = 0; calls < MOST_CALLS - 1; calls++, turn++) {
            due("call " + (calls + 1), x.passes(3, turn % 2), 1);
        }
        due("the last call", x.note(3, 3), MOST_CALLS - 1 - FOUR.length() - 2);
    }

    // ---- type, clear

    private static void letters() {
        by("Promise 2: a letter (0 .. 255)");
        range("type", FalseParity::new, 0, 255, (x, letter) -> x.type(letter), BAD);
        FalseParity x = new FalseParity();
        for (int letter = 0; letter < 150; letter++) {
            due("type(" + letter + ")", x.type(letter), letter + 1);
        }
        x.clear();
        for (int letter = 150; letter <= 255; letter++) {
            due("type(" + letter + ")", x.type(letter), letter - 149);
        }
    }

    private static FalseParity fullText() {
        FalseParity x = new FalseParity();
        type(x, FOUR + " ".repeat(150 - FOUR.length()));
        return x;
    }

    private static void mostLetters() {
        by("They are a text (150 letters at most)");
        FalseParity x = new FalseParity();
        for (int i = 1; i <= 150; i++) {
            due("letter " + i, x.type(' '), i);
        }
        due("letter 151", x.type(' '), FULL);
        due("letter 151 again", x.type(';'), FULL);
        due("count(6)", x.count(6), 150);
        due("clear()", x.clear(), 150);
        due("type behind clear()", x.type(' '), 1);
        by("They are a text (150 letters at most): FULL, and nothing changes");
        unchanging("type(59)", FalseParityTextEdges::fullText, y -> y.type(';'), FULL);
        by("Refused, the first of these: BAD, then FULL");
        unchanging("type(256)", FalseParityTextEdges::fullText, y -> y.type(256), BAD);
        unchanging("type(-1)", FalseParityTextEdges::fullText, y -> y.type(-1), BAD);
    }

    private static void fullTextIsRead() {
        by("They are a text (150 letters at most): all of them are read");
        due("149 blanks and ;", reading(" ".repeat(149) + ";"), -10 - 149);
        due("150 blanks", reading(" ".repeat(150)), 0);
        due("items and blanks", fullText().country(), 10);
        due("an item at the end", reading(" ".repeat(147) + "p1;"), 1);
        due("too early at the end", reading(" ".repeat(148) + "p1"), -10 - 150);
        due("too early at the end, 0", reading(" ".repeat(148) + "p0"), -10 - 150);
        due("too early at the end, 31", reading(" ".repeat(147) + "p31"), -10 - 150);
        due("a number of 149 letters", reading("p" + "9".repeat(149)), -10 - 1);
        FalseParity x = fullText();
        due("country()", x.country(), 10);
        due("type behind country()", x.type('p'), 1);
        FalseParity y = new FalseParity();
        type(y, " ".repeat(148) + "p1;");
        due("the letter that was FULL is not there", y.country(), -10 - 150);
    }

    private static void clearing() {
        by("Promise 3: THE TEXT is empty: how many letters it had");
        FalseParity x = rich();
        due("clear()", x.clear(), 13);
        due("clear() of the empty one", x.clear(), 0);
        due("count(6)", x.count(6), 0);
        due("country() of the empty one", x.country(), 0);
        by("Promise 3: nothing else is");
        FalseParity y = rich();
        y.clear();
        type(y, "p5;p0;n7 5 1;");
        same("clear()", answers(y), answers(rich()));
    }

    private static void shorterText() {
        by("THE TEXT is empty: nothing of a longer one is read");
        String[] longer = {"p05;", "p012345;", "p0;p0;n1 0 00;", ";;;;;;;;", "p1;p1;p1;p1;p1;p1;p1;", "99999999"};
        for (String before : longer) {
            for (String text : new String[] {"", "p", "p0", "p1", "p0 ", "p3", "p0;"}) {
                FalseParity x = new FalseParity();
                type(x, before);
                x.clear();
                due("\"" + text + "\" behind \"" + before + "\"", read(x, text), reading(text));
            }
        }
        FalseParity y = told("p0;p0;p0;p0;p0;n1 0 4;");
        due("behind country()", read(y, "p0"), -12);
        due("behind country()", y.clear(), 2);
        due("behind country()", read(y, "p0;n1 0 1"), -18);
    }

    // ---- how many, and how much

    private static String people(int many) {
        return "p0;".repeat(many);
    }

    private static void mostPeople() {
        by("PEOPLE 0 .. (5 at most)");
        for (int many = 0; many <= 5; many++) {
            FalseParity x = told(people(many));
            due("count(0)", x.count(0), many);
            due("the last", x.person(many - 1, 0), many == 0 ? BAD : 0);
            due("behind the last", x.person(many, 0), BAD);
        }
        by("FAULT: a sixth p");
        fault(people(5) + "p0;", 15);
        fault(people(5) + "p", 15);
        fault(people(5) + "  p 99", 17);
        fault(people(5) + SIX_NOTES + "b1;s1;p0;", 63);
        fault(people(6) + "x", 15);
        items(people(5) + "n1 0 4;", 6);
    }

    private static void mostNotes() {
        by("NOTES 0 .. (6 at most)");
        for (int many = 0; many <= 6; many++) {
            FalseParity x = told("p0;" + "n1 0 0;".repeat(many));
            due("count(1)", x.count(1), many);
            due("the last", x.note(many - 1, 0), many == 0 ? BAD : 1);
            due("behind the last", x.note(many, 0), BAD);
        }
        by("FAULT: a seventh n");
        fault("p0;" + SIX_NOTES + "n1 0 0;", 45);
        fault("p0;" + SIX_NOTES + "n", 45);
        fault("p0;" + SIX_NOTES + "b1; n0", 49);
        items("p0;" + SIX_NOTES + "p0;", 8);
    }

    private static void looks() {
        by("LOOKS (MARKS 0 .. 4 as bits)");
        for (int v = 0; v <= 120; v++) {
            String text = "p" + v + ";";
            if (v <= 31) {
                due("LOOKS of " + text, told(text).person(0, 0), v);
            } else {
                fault(text, 1);
            }
        }
    }

    private static void worth() {
        by("WORTH (1 .. 99)");
        for (int v = 0; v <= 120; v++) {
            String text = "p0;n" + v + " 0 0;";
            if (v >= 1 && v <= 99) {
                due("WORTH of " + text, told(text).note(0, 0), v);
            } else {
                fault(text, 4);
            }
        }
    }

    private static void marks() {
        by("MARKS (bits; 0: it is true, else it is false)");
        for (int v = 0; v <= 120; v++) {
            String text = "p0;n7 " + v + " 0;";
            if (v > 31) {
                fault(text, 6);
                continue;
            }
            FalseParity x = told(text);
            due("MARKS of " + text, x.note(0, 1), v);
            due("false WORTH of " + text, x.now(4), v == 0 ? 0 : 7);
            due("soonest of " + text, x.soonest(0, -1), v == 0 ? STATE : NONE);
        }
    }

    private static void holders() {
        by("FAULT: a PERSON that there is not");
        for (int many = 0; many <= 5; many++) {
            for (int v = 0; v <= 99; v++) {
                String text = people(many) + "n1 0 " + v + ";";
                if (v < many) {
                    due("HOLDER of " + text, told(text).note(0, 2), v);
                } else {
                    fault(text, 3 * many + 5);
                }
            }
        }
        by("n W B K (of a PERSON told ahead)");
        fault("p0;n1 0 1;p0;", 8);
        fault("n1 0 0;p0;", 5);
        items("p0;n1 0 0;p0;n1 0 1;", 4);
    }

    private static void boardAndShare() {
        by("BOARD (1 .. 9)");
        for (int v = 0; v <= 120; v++) {
            String text = "b" + v + ";";
            if (v >= 1 && v <= 9) {
                due("BOARD of " + text, told(text).count(2), v);
            } else {
                fault(text, 1);
            }
        }
        by("SHARE (0 .. 10)");
        for (int v = 0; v <= 120; v++) {
            String text = "s" + v + ";";
            if (v <= 10) {
                due("SHARE of " + text, told(text).count(3), v);
            } else {
                fault(text, 1);
            }
        }
        by("BOARD (3 at first)");
        due("count(2)", new FalseParity().count(2), 3);
        due("count(2), not told", told("p0;s9;").count(2), 3);
        by("SHARE (3 at first)");
        due("count(3)", new FalseParity().count(3), 3);
        due("count(3), not told", told("p0;b9;").count(3), 3);
    }

    private static void onceAtMost() {
        by("FAULT: b again");
        items("b9;", 1);
        fault("b9;b9;", 3);
        fault("b3;b", 3);
        fault("b1;p0;s1;b0", 9);
        by("FAULT: s again");
        items("s10;", 1);
        fault("s0;s0;", 3);
        fault("s3;s", 3);
        fault("s10;p0;b1;s99", 10);
        by("b N, s N (once at most each)");
        items("s0;b1;", 2);
    }

    // ---- tokens

    private static boolean isAmong(int letter, String letters) {
        return letters.indexOf(letter) >= 0;
    }

    private static void anyFirstLetter() {
        by("FAULT: any other letter, ahead of an ITEM");
        for (int letter = 0; letter <= 255; letter++) {
            boolean begins = isAmong(letter, "pnbs");
            boolean blank = letter == 32;
            due("letter " + letter, reading("" + (char) letter), begins ? -11 : blank ? 0 : -10);
            due("p1; and " + letter, reading("p1;" + (char) letter), begins ? -14 : blank ? 1 : -13);
        }
    }

    private static void anyLetterForNumber() {
        by("FAULT: any other letter, where a NUMBER is due");
        for (int letter = 0; letter <= 255; letter++) {
            boolean goesOn = isAmong(letter, "0123456789 ");
            due("p and " + letter, reading("p" + (char) letter), goesOn ? -12 : -11);
            boolean worth = isAmong(letter, "123456789 ");
            due("n and " + letter, reading("n" + (char) letter), worth ? -12 : -11);
        }
    }

    private static void anyLetterForEnd() {
        by("FAULT: any other letter, where ; is due");
        for (int letter = 0; letter <= 255; letter++) {
            boolean ends = letter == ';';
            boolean blank = letter == 32;
            boolean digit = isAmong(letter, "0123456789");
            due("p1 and " + letter, reading("p1" + (char) letter), ends ? 1 : blank || digit ? -13 : -12);
            due("p1, a blank and " + letter, reading("p1 " + (char) letter), ends ? 1 : blank ? -14 : -13);
        }
    }

    private static void blanks() {
        by("blanks (32) between TOKENS");
        items("   p   1   ;   n   1   1   0   ;   ", 2);
        items("p1;n1 1 0;b1;s1;", 4);
        fault("p1 2;", 3);
        fault("p0;n11 0;", 8);
        fault("p0;n1 1 0 0;", 10);
        fault("b\t1;", 1);
        fault("p1;\n", 3);
    }

    private static void numbersAbove99() {
        by("FAULT: a NUMBER above 99");
        String[] numbers = {"100", "101", "256", "999", "1000", "65536", "65537", "2147483648", "4294967296", "4294967297",
            "18446744073709551616", "18446744073709551617", "10000000000000000000000000000000000000001"};
        for (String number : numbers) {
            fault("p" + number + ";", 1);
            fault("p0;n" + number + " 1 0;", 4);
            fault("p0;n1 " + number + " 0;", 6);
            fault("p0;p0;n1 1 " + number + ";", 11);
            fault("b" + number + ";", 1);
            fault("s" + number + ";", 1);
            fault(number, 0);
            fault("p1 " + number, 3);
        }
        fault("p100", 1);
        items("p0;n99 1 0;", 2);
    }

    private static void zerosAhead() {
        by("FAULT: a NUMBER with a 0 ahead of others");
        for (String number : new String[] {"00", "01", "09", "000", "001", "031"}) {
            fault("p" + number + ";", 1);
            fault("p0;n" + number + " 1 0;", 4);
            fault("p0;n1 " + number + " 0;", 6);
            fault("p0;p0;n1 1 " + number + ";", 11);
            fault("b" + number + ";", 1);
            fault("s" + number + ";", 1);
        }
        fault("p00", 1);
        items("p0;n10 20 0;s0;", 3);
        fault("p0 0;", 3);
    }

    private static void cannotStand() {
        by("FAULT: the first letter of the first TOKEN that can't stand there");
        fault(";", 0);
        fault("1", 0);
        fault("12p", 0);
        fault("p;", 1);
        fault("pp", 1);
        fault("p1;;", 3);
        fault("p1p1;", 2);
        fault("p0;n;", 4);
        fault("p0;n1;", 5);
        fault("p0;n1 1;", 7);
        fault("p0;n1 1 0 b", 10);
        fault("b;", 1);
        fault("b1 s", 3);
        fault("s;", 1);
        fault("s1 b", 3);
        by("FAULT: the first of several");
        fault("p99;x", 1);
        fault("x;p99;", 0);
        fault("p1;n1 0 7;p01;", 8);
        fault("p01;p", 1);
        fault("p1 \u00ff;n", 3);
        fault("p32", 1);
    }

    private static void tooEarly() {
        by("FAULT: the text's length, if it ends too early");
        String text = " p 0;p31 ;n1 0 0;n 99 31 1 ; b9; s10;";
        int ended = 0;
        for (int length = 0; length <= text.length(); length++) {
            String part = text.substring(0, length);
            String last = part.substring(part.lastIndexOf(';') + 1);
            ended += part.endsWith(";") ? 1 : 0;
            due("country() of \"" + part + "\"", reading(part), last.isBlank() ? ended : -10 - length);
        }
        due("all items", ended, 6);
    }

    // ---- country

    private static void faultChangesNothing() {
        by("Promise 4: -10 less FAULT: nothing changes");
        Maker maker = () -> {
            FalseParity x = rich();
            type(x, "b7;s2;n1 9 7;");
            return x;
        };
        unchanging("country()", maker, x -> x.country(), -10 - 24);
        Maker early = () -> {
            FalseParity x = rich();
            type(x, "b");
            return x;
        };
        unchanging("country()", early, x -> x.country(), -10 - 14);
        by("Promise 4: -10 less FAULT: THE TEXT is as it was");
        FalseParity x = new FalseParity();
        type(x, "p1");
        due("country()", x.country(), -12);
        due("type(59)", x.type(';'), 3);
        due("country()", x.country(), 1);
        due("count(6)", x.count(6), 0);
    }

    private static void howManyItems() {
        by("Promise 4: THE TEXT tells all anew, and is empty then: how many ITEMS");
        FalseParity x = new FalseParity();
        due("the most ITEMS", read(x, people(5) + SIX_NOTES + "b1;s1;"), 13);
        due("count(6)", x.count(6), 0);
        due("country() of the empty one", x.country(), 0);
        due("PEOPLE", x.count(0), 0);
        due("NOTES", x.count(1), 0);
        due("BOARD", x.count(2), 3);
        due("SHARE", x.count(3), 3);
    }

    private static FalseParity richReadAnew(String text) {
        FalseParity x = rich();
        read(x, text);
        return x;
    }

    private static void readAnew() {
        by("(Read anew: as told)");
        String[] texts = {"", "p4;", "p31;p8;n7 3 1;", "p0;p1;p2;p3;p4;n1 1 4;n2 2 3;n3 3 2;n4 4 1;n5 5 0;n6 6 4;b9;s10;"};
        for (String text : texts) {
            same("country() of \"" + text + "\"", answers(richReadAnew(text)), answers(ratedReadAnew(text)));
            due("THE TRACE, that no sentence says is gone", richReadAnew(text).trace(), 1011);
        }
    }

    /** Of all that rich() did, only what leaves its number in THE TRACE. */
    private static FalseParity ratedReadAnew(String text) {
        FalseParity x = told("p0;n1 0 0;");
        x.rate(3, 0);
        read(x, text);
        return x;
    }

    private static void goneByReading() {
        by("(Read anew: nothing SEEN)");
        FalseParity x = richReadAnew(FOUR);
        due("count(4)", x.count(4), 0);
        due("canBe(0)", x.canBe(0), 32);
        for (int i = 1; i <= 6; i++) {
            due("saw " + i, x.saw(0, 1), i);
        }
        by("(Read anew: nothing HEARD)");
        due("count(5)", x.count(5), 0);
        due("years()", x.years(), 1022);
        for (int i = 1; i <= 6; i++) {
            due("hears " + i, x.hears(9, 1), i);
        }
        by("(Read anew: IMAGES are gone)");
        due("back(0)", x.back(0), STATE);
        due("back(1)", x.back(1), STATE);
        due("keep(1)", x.keep(1), 0);
        due("back(0)", x.back(0), STATE);
        due("back(1)", x.back(1), 0);
        by("(Read anew: nothing to be UNDONE)");
        FalseParity y = richReadAnew(FOUR);
        due("now(5)", y.now(5), 0);
        due("undo()", y.undo(), STATE);
        by("At first no NOTE has PARITY, all USES are 0, none is AWAY");
        due("now(0)", y.now(0), 0);
        due("now(1)", y.now(1), 0);
        due("now(2)", y.now(2), 0);
        for (int n = 0; n < 4; n++) {
            due("note(" + n + ", 3)", y.note(n, 3), 0);
        }
        by("(Read anew: BOARD, SHARE as told, 3 at first)");
        FalseParity z = richReadAnew("p1;");
        due("count(2)", z.count(2), 3);
        due("count(3)", z.count(3), 3);
        due("a PERSON that there was", z.person(1, 0), BAD);
        due("a NOTE that there was", z.note(0, 0), BAD);
    }

    public static void main(String[] args) {
        newObject();
        imagesOfNobody();
        lastCall();
        letters();
        mostLetters();
        fullTextIsRead();
        clearing();
        shorterText();
        mostPeople();
        mostNotes();
        looks();
        worth();
        marks();
        holders();
        boardAndShare();
        onceAtMost();
        anyFirstLetter();
        anyLetterForNumber();
        anyLetterForEnd();
        blanks();
        numbersAbove99();
        zerosAhead();
        cannotStand();
        tooEarly();
        faultChangesNothing();
        howManyItems();
        readAnew();
        goneByReading();
        end();
    }
}
