import java.lang.reflect.Constructor;
import java.lang.reflect.Field;
import java.lang.reflect.Method;
import java.lang.reflect.Modifier;
import java.util.Arrays;
import java.util.TreeSet;

/** For each promise of the document: ordinary inputs, the edges that it names, wrong inputs. */
public final class FalseParityPromises extends Checks {
    private static final int[] WRONG = {-1, 7, 99, Integer.MAX_VALUE, Integer.MIN_VALUE};

    private static void due(int promise, String what, long got, long want) {
        by("promise " + promise);
        due(what, got, want);
    }

    private static void newObject() {
        FalseParity x = new FalseParity();
        int[] counts = {0, 0, 3, 3, 0, 0, 0};
        for (int what = 0; what < 7; what++) {
            due(1, "count(" + what + ")", x.count(what), counts[what]);
        }
        for (int what = 0; what < 6; what++) {
            due(1, "now(" + what + ")", x.now(what), 0);
        }
        due(1, "note(0, 0)", x.note(0, 0), BAD);
        due(1, "person(0, 0)", x.person(0, 0), BAD);
        due(1, "canBe(0)", x.canBe(0), 32);
        due(1, "canBe(1)", x.canBe(1), 0);
        due(1, "canBe(2)", x.canBe(2), 0);
        due(1, "show()", x.show(), NONE);
        due(1, "years()", x.years(), 1022);
        due(1, "letIn(0)", x.letIn(0), 0);
        due(1, "letIn(1)", x.letIn(1), 0);
        due(1, "undo()", x.undo(), STATE);
        due(1, "back(0)", x.back(0), STATE);
        due(1, "forget()", x.forget(), 0);
        due(1, "clear()", x.clear(), 0);
        due(1, "trace()", x.trace(), 0);
        due(1, "country()", x.country(), 0);
    }

    private static void typing() {
        FalseParity x = new FalseParity();
        due(2, "type(0)", x.type(0), 1);
        due(2, "type(255)", x.type(255), 2);
        due(2, "type(-1)", x.type(-1), BAD);
        due(2, "type(256)", x.type(256), BAD);
        due(2, "letters", x.count(6), 2);
        for (int i = 3; i <= 150; i++) {
            due(2, "type(32)", x.type(32), i);
        }
        due(2, "the 151st letter", x.type(32), FULL);
        due(2, "BAD ahead of FULL", x.type(256), BAD);
        due(2, "letters", x.count(6), 150);
        due(3, "clear()", x.clear(), 150);
        due(3, "clear() again", x.clear(), 0);
        due(3, "letters", x.count(6), 0);
        due(3, "type behind clear()", x.type(112), 1);
    }

    private static void texts() {
        due(4, "no items", reading(""), 0);
        due(4, "blanks", reading("    "), 0);
        due(4, "all items", reading(FOUR), 10);
        due(4, "blanks all over", reading("  p  31 ; n 99  31  0 ;b 9;  s 10 ;  "), 4);
        due(4, "b, s ahead", reading("s0;b1;p0;"), 3);
        String[] texts = {
            "p", "p ", "p1", "p1 ", "p;", "p32;", "p100", "p01;", "p00;", "p0 1;", "p0p", "p0;p0;p0;p0;p0;p",
            "n1 0 0;", "p0;n0 0 0;", "p0;n99 0 0;n100 0 0;", "p0;n1 32 0;", "p0;n1 0 1;", "p0;n1 0;",
            "p0;n1 0 0 0;", "p0;n1 0 0;n1 0 0;n1 0 0;n1 0 0;n1 0 0;n1 0 0;n", "b0;", "b10;", "b9;b9;", "s11;",
            "s10;s", ";", "7", "x", "p1x;", "P1;", "p1; \t", "p1,", "p1;;", "p-1;", "p0;n1 0 00;", "p0;n1 0 0",
            "p 1;n 5 3 0 ; q", "p0;n1 0 1;p0;", "p0;n 1 1", "b", "b3", "s 3 ", "n", "p123456789012345;", "p99;",
            "n5", "b3;s3;b", "p1;n1 1 99;"};
        int[] faults = {
            1, 2, 2, 3, 1, 1, 1, 1, 1, 3, 2, 15,
            5, 4, 12, 6, 8, 7,
            10, 45, 1, 1, 3, 1,
            4, 0, 0, 0, 2, 0, 4, 2, 3, 1, 8, 9,
            14, 8, 8, 1, 2, 4, 1, 1, 1,
            2, 6, 8};
        for (int i = 0; i < texts.length; i++) {
            due(4, "country() of \"" + texts[i] + "\"", reading(texts[i]), -10 - faults[i]);
        }
    }

    private static void faultChangesNothing() {
        FalseParity x = told(FOUR);
        pass(x, 0, 3, 2, 1);
        x.saw(0, 1);
        x.hears(1, 0);
        x.keep(0);
        type(x, "p5;n1 1 0;b7;s7;b");
        due(4, "fault", x.country(), -10 - 16);
        due(4, "letters", x.count(6), 17);
        due(4, "PEOPLE", x.count(0), 4);
        due(4, "NOTES", x.count(1), 4);
        due(4, "BOARD", x.count(2), 2);
        due(4, "SHARE", x.count(3), 5);
        due(4, "SEEN", x.count(4), 1);
        due(4, "HEARD", x.count(5), 1);
        due(4, "LOOKS", x.person(0, 0), 1);
        due(4, "WORTH", x.note(0, 0), 20);
        due(4, "USES", x.note(0, 3), 2);
        due(4, "HOLDER", x.note(0, 2), 1);
        due(4, "REFUSED", x.now(2), 1);
        due(4, "back(0)", x.back(0), 1);
    }

    private static void readAnew() {
        FalseParity x = told(FOUR);
        pass(x, 0, 3, 2, 1);
        x.sends(1, 1);
        x.teaches(0, 9);
        x.saw(0, 1);
        x.hears(1, 0);
        x.keep(0);
        x.keep(1);
        x.rate(0, 0);
        due(4, "anew", read(x, "p4;p8;n7 3 1;"), 3);
        int[] counts = {2, 1, 3, 3, 0, 0, 0};
        for (int what = 0; what < 7; what++) {
            due(4, "count(" + what + ")", x.count(what), counts[what]);
        }
        int[] nows = {0, 0, 0, 7, 7, 0};
        for (int what = 0; what < 6; what++) {
            due(4, "now(" + what + ")", x.now(what), nows[what]);
        }
        int[] notes = {7, 3, 1, 0, 0, 0, 3};
        for (int what = 0; what < 7; what++) {
            due(4, "note(0, " + what + ")", x.note(0, what), notes[what]);
        }
        due(4, "LOOKS", x.person(0, 0), 4);
        due(4, "a PERSON that there was", x.person(2, 0), BAD);
        due(4, "undo()", x.undo(), STATE);
        due(4, "back(0)", x.back(0), STATE);
        due(4, "back(1)", x.back(1), STATE);
        due(4, "trace()", x.trace(), 1);
        due(4, "nothing", read(x, ""), 0);
        due(4, "nobody", x.count(0), 0);
        due(4, "a text that ends too early", read(x, "p1;n5 1 0"), -19);
        due(4, "the next one", read(x, "p1;"), 1);
        due(4, "a PURSE of nothing", x.person(0, 1), 0);
        due(4, "WORTH of nothing", x.now(3), 0);
        due(4, "false WORTH of nothing", x.now(4), 0);
        due(4, "LET IN of nothing", x.letIn(0), 0);
        due(4, "no NOTES", x.count(1), 0);
    }

    private static void notesAndPeople() {
        FalseParity x = told(FOUR);
        int[][] notes = {{20, 1, 0, 0, 0, 0, 6}, {50, 2, 1, 0, 0, 0, 5}, {10, 4, 2, 0, 0, 0, 13}, {5, 0, 3, 0, 0, 0, 15}};
        for (int n = 0; n < 4; n++) {
            for (int what = 0; what < 7; what++) {
                due(5, "note(" + n + ", " + what + ")", x.note(n, what), notes[n][what]);
            }
        }
        for (int bad : WRONG) {
            due(5, "note(" + bad + ", 0)", x.note(bad, 0), BAD);
            due(5, "note(0, " + bad + ")", x.note(0, bad), BAD);
            due(6, "person(" + bad + ", 0)", x.person(bad, 0), BAD);
            due(6, "person(0, " + bad + ")", x.person(0, bad), BAD);
            due(7, "now(" + bad + ")", x.now(bad), BAD);
            due(25, "count(" + bad + ")", x.count(bad), BAD);
        }
        due(5, "note(4, 0)", x.note(4, 0), BAD);
        due(6, "person(4, 0)", x.person(4, 0), BAD);
        due(6, "person(0, 2)", x.person(0, 2), BAD);
        due(7, "now(6)", x.now(6), BAD);
        int[] looks = {1, 6, 0, 3};
        int[] purses = {20, 50, 10, 5};
        for (int p = 0; p < 4; p++) {
            due(6, "LOOKS", x.person(p, 0), looks[p]);
            due(6, "PURSE", x.person(p, 1), purses[p]);
        }
        pass(x, 0, 2, 1);
        due(5, "PARITY", x.note(0, 4), 1);
        due(5, "TAKERS by PARITY", x.note(0, 6), 15);
        due(6, "PURSE of two", x.person(1, 1), 70);
        due(6, "PURSE of none", x.person(0, 1), 0);
        x.sends(1, 1);
        due(5, "AWAY", x.note(1, 5), 1);
        due(5, "WORTH, AWAY", x.note(1, 0), 50);
        due(5, "TAKERS, AWAY", x.note(1, 6), 5);
        due(6, "PURSE without what is AWAY", x.person(1, 1), 20);
        int[] nows = {1, 2, 0, 35, 30, 3};
        for (int what = 0; what < 6; what++) {
            due(7, "now(" + what + ")", x.now(what), nows[what]);
        }
        x.sends(0, 1);
        due(7, "PARITY of what is AWAY", x.now(0), 1);
        due(7, "WORTH of false ones", x.now(4), 10);
    }

    private static void passing() {
        FalseParity x = told(FOUR);
        due(8, "TAKEN", x.passes(0, 2), 1);
        due(8, "USES", x.note(0, 3), 1);
        due(8, "REFUSED", x.passes(0, 3), 0);
        due(8, "USES are 0", x.note(0, 3), 0);
        due(8, "HOLDER keeps it", x.note(0, 2), 2);
        due(8, "counted", x.now(2), 1);
        due(8, "to its HOLDER", x.passes(0, 2), STATE);
        due(8, "first of two", x.passes(0, 1), 1);
        due(8, "no PARITY yet", x.note(0, 4), 0);
        due(8, "second of two", x.passes(0, 2), 1);
        due(8, "PARITY", x.note(0, 4), 1);
        due(8, "he looks for it", x.passes(0, 3), 1);
        due(8, "USES go on", x.note(0, 3), 3);
        pass(x, 3, 0, 1, 2, 3);
        due(8, "USES of a true one", x.note(3, 3), 4);
        due(8, "no PARITY of a true one", x.note(3, 4), 0);
        x.sends(0, 1);
        due(8, "AWAY", x.passes(0, 0), STATE);
        due(8, "may be undone", x.now(5), 10);
        for (int bad : WRONG) {
            due(8, "passes(" + bad + ", 0)", x.passes(bad, 0), BAD);
            due(8, "passes(0, " + bad + ")", x.passes(0, bad), BAD);
        }
        due(8, "no such NOTE", x.passes(4, 0), BAD);
        due(8, "no such PERSON", x.passes(0, 4), BAD);
        FalseParity y = told(FOUR);
        pass(y, 0, 2);
        pass(y, 1, 0, 3);
        due(8, "USES of another", y.note(0, 3), 1);
        due(8, "USES of the REFUSED", y.note(1, 3), 0);
        due(8, "HOLDER of another", y.note(0, 2), 2);
        due(8, "HOLDER of the REFUSED", y.note(1, 2), 0);
        due(8, "BOARD 1: by one passing", parityByOne(), 1);
    }

    private static int parityByOne() {
        FalseParity x = told("p0;p0;n1 1 0;b1;");
        x.passes(0, 1);
        return x.now(0);
    }

    private static void teachingAndSending() {
        FalseParity x = told(FOUR);
        due(9, "teaches(0, 31)", x.teaches(0, 31), 1);
        due(9, "LOOKS", x.person(0, 0), 31);
        due(9, "TAKERS", x.note(1, 6), 4);
        due(9, "the same again", x.teaches(0, 31), 31);
        due(9, "may be undone", x.now(5), 2);
        due(9, "looks of 32", x.teaches(0, 32), BAD);
        due(9, "looks below 0", x.teaches(0, -1), BAD);
        due(9, "no such PERSON", x.teaches(4, 0), BAD);
        due(9, "no such PERSON", x.teaches(-1, 0), BAD);
        due(9, "may be undone", x.now(5), 2);
        due(10, "is so", x.sends(0, 0), STATE);
        due(10, "one", x.sends(0, 1), 1);
        due(10, "is so", x.sends(0, 1), STATE);
        due(10, "two", x.sends(3, 1), 2);
        due(10, "AWAY", x.now(1), 9);
        due(10, "WORTH", x.now(3), 60);
        due(10, "again", x.sends(0, 0), 1);
        due(10, "AWAY", x.now(1), 8);
        for (int bad : new int[] {-1, 2, 99}) {
            due(10, "sends(0, " + bad + ")", x.sends(0, bad), BAD);
        }
        due(10, "no such NOTE", x.sends(4, 1), BAD);
        due(10, "no such NOTE", x.sends(-1, 1), BAD);
        due(10, "may be undone", x.now(5), 5);
    }

    private static void undoing() {
        FalseParity x = told(FOUR);
        pass(x, 0, 2, 3);
        x.teaches(2, 7);
        x.sends(1, 1);
        x.sends(1, 1);
        x.passes(0, 9);
        due(11, "may be", x.now(5), 4);
        due(11, "sends undone", x.undo(), 3);
        due(11, "AWAY", x.now(1), 0);
        due(11, "teaches undone", x.undo(), 2);
        due(11, "LOOKS", x.person(2, 0), 0);
        due(11, "REFUSED undone", x.undo(), 1);
        due(11, "counted", x.now(2), 0);
        due(11, "USES", x.note(0, 3), 1);
        due(11, "PARITY comes", x.passes(0, 1), 1);
        due(11, "PARITY", x.now(0), 1);
        due(11, "PARITY undone", x.undo(), 1);
        due(11, "PARITY", x.now(0), 0);
        due(11, "HOLDER", x.note(0, 2), 2);
        due(11, "TAKEN undone", x.undo(), 0);
        due(11, "HOLDER", x.note(0, 2), 0);
        due(11, "none", x.undo(), STATE);
        for (int i = 0; i < 23; i++) {
            x.teaches(0, i);
        }
        due(11, "ten are known", x.now(5), 10);
        for (int i = 9; i >= 0; i--) {
            due(11, "undo()", x.undo(), i);
            due(11, "LOOKS", x.person(0, 0), i + 12);
        }
        due(11, "older ones are lost", x.undo(), STATE);
        due(11, "LOOKS", x.person(0, 0), 12);
    }

    private static void soonestAndTill() {
        FalseParity x = told(FOUR);
        due(12, "how many", x.soonest(0, -1), 2);
        due(12, "0", x.soonest(0, 0), 1);
        due(12, "1", x.soonest(0, 1), 2);
        due(12, "not so many", x.soonest(0, 2), -5);
        due(12, "not so many", x.soonest(0, Integer.MAX_VALUE), -5);
        due(12, "below -1", x.soonest(0, -2), BAD);
        due(12, "below -1", x.soonest(0, Integer.MIN_VALUE), BAD);
        due(12, "no such NOTE", x.soonest(4, -1), BAD);
        due(12, "no such NOTE", x.soonest(-1, -1), BAD);
        due(12, "true", x.soonest(3, -1), STATE);
        due(12, "BAD ahead of STATE", x.soonest(3, -2), BAD);
        x.passes(0, 2);
        due(12, "one less", x.soonest(0, -1), 1);
        due(12, "one less", x.soonest(0, 0), 1);
        x.passes(0, 1);
        due(12, "has PARITY", x.soonest(0, -1), STATE);
        x.sends(1, 1);
        due(12, "AWAY", x.soonest(1, -1), STATE);
        due(13, "AWAY", x.till(1), STATE);
        due(13, "PARITY", x.till(0), -5);
        due(13, "true", x.till(3), -5);
        due(13, "no such NOTE", x.till(4), BAD);
        due(13, "no such NOTE", x.till(-1), BAD);

        FalseParity y = told("p1;p0;p1;n9 1 0;n9 1 1;b2;");
        due(12, "one taker", y.soonest(0, -1), NONE);
        due(12, "one taker, k", y.soonest(0, 5), NONE);
        due(13, "one passing", y.till(0), 1);
        due(13, "the taker holds it", y.till(1), 0);
        due(12, "the taker holds it", y.soonest(1, -1), NONE);
        FalseParity z = told("p1;p0;p1;n9 1 0;b1;");
        due(12, "one is enough", z.soonest(0, -1), 1);
        due(13, "PARITY comes", z.till(0), -5);
        FalseParity alone = told("p0;n9 1 0;n9 0 0;");
        due(12, "alone", alone.soonest(0, -1), NONE);
        due(13, "alone", alone.till(0), 0);
        due(13, "alone, true", alone.till(1), 0);
        FalseParity nobody = told("p1;p1;p1;n9 1 0;");
        due(13, "no takers", nobody.till(0), 0);
        FalseParity nine = told("p1;p0;p0;n9 1 2;b9;");
        for (int k = 0; k < 9; k++) {
            due(12, "nine", nine.soonest(0, k), 1 + k % 2);
        }
        due(12, "nine", nine.soonest(0, 9), -5);
        FalseParity low = told("p0;p1;p0;n9 1 2;b3;");
        due(12, "the lowest first", low.soonest(0, 0), 0);
        due(12, "the lowest first", low.soonest(0, 1), 2);
        due(12, "the lowest first", low.soonest(0, 2), 0);
        FalseParity last = told("p0;p1;n9 1 0;n9 1 1;b1;");
        due(12, "nobody else for the one that lacks", last.soonest(0, -1), NONE);
        due(12, "somebody else", last.soonest(1, 0), 0);
        due(12, "nothing is changed", nine.note(0, 3) + nine.now(5), 0);
        due(13, "two takers", nine.till(0), -5);
    }

    private static void fraction(FalseParity x, int n, int passings, int upper, int lower) {
        String call = "odds(" + n + ", " + passings + ", ";
        due(14, call + "0)", x.odds(n, passings, 0), upper);
        due(14, call + "1)", x.odds(n, passings, 1), lower);
    }

    private static void odds() {
        FalseParity x = told(FOUR);
        fraction(x, 0, 0, 1, 1);
        fraction(x, 0, 1, 2, 3);
        fraction(x, 0, 2, 2, 9);
        fraction(x, 0, 3, 2, 9);
        fraction(x, 0, 4, 2, 9);
        fraction(x, 1, 1, 2, 3);
        fraction(x, 2, 1, 2, 3);
        fraction(x, 2, 2, 4, 9);
        fraction(x, 3, 4, 1, 1);
        FalseParity y = told("p1;p0;p0;p0;p1;n9 1 1;n9 1 0;b9;");
        fraction(y, 0, 4, 1, 16);
        fraction(y, 1, 1, 3, 4);
        fraction(y, 1, 4, 3, 32);
        FalseParity none = told("p1;p1;n9 1 0;");
        fraction(none, 0, 0, 1, 1);
        fraction(none, 0, 1, 0, 1);
        FalseParity alone = told("p0;n9 1 0;n9 0 0;");
        fraction(alone, 0, 0, 1, 1);
        fraction(alone, 0, 4, 0, 1);
        fraction(alone, 1, 1, 0, 1);
        due(14, "5 PASSINGS", x.odds(0, 5, 0), BAD);
        due(14, "-1 PASSINGS", x.odds(0, -1, 0), BAD);
        due(14, "what 2", x.odds(0, 0, 2), BAD);
        due(14, "what -1", x.odds(0, 0, -1), BAD);
        due(14, "no such NOTE", x.odds(4, 0, 0), BAD);
        due(14, "no such NOTE", x.odds(-1, 0, 0), BAD);
        x.sends(0, 1);
        due(14, "AWAY", x.odds(0, 0, 0), STATE);
        due(14, "BAD ahead of STATE", x.odds(0, 5, 0), BAD);
    }

    private static void marks() {
        FalseParity x = told("p1;p6;p24;");
        due(15, "no such PERSON", x.saw(3, 0), BAD);
        due(15, "no such PERSON", x.saw(-1, 0), BAD);
        due(15, "took 2", x.saw(0, 2), BAD);
        due(15, "took -1", x.saw(0, -1), BAD);
        due(17, "show()", x.show(), 0);
        due(15, "one", x.saw(1, 0), 1);
        due(16, "how many", x.canBe(0), 24);
        due(16, "the least", x.canBe(1), 2);
        due(16, "in all", x.canBe(2), 0);
        due(17, "show()", x.show(), 0);
        due(15, "two", x.saw(0, 0), 2);
        due(16, "how many", x.canBe(0), 12);
        due(16, "the least", x.canBe(1), 3);
        due(16, "in all", x.canBe(2), 1);
        due(17, "show()", x.show(), 2);
        x.teaches(0, 0);
        due(16, "LOOKS as NOW", x.canBe(0), 0);
        due(16, "the least", x.canBe(1), NONE);
        due(16, "in all", x.canBe(2), NONE);
        due(17, "none can be", x.show(), NONE);
        x.teaches(0, 31);
        due(16, "LOOKS as NOW", x.canBe(0), 24);
        for (int i = 3; i <= 6; i++) {
            due(15, "more", x.saw(2, 1), i);
        }
        due(15, "a seventh", x.saw(2, 1), FULL);
        due(15, "BAD ahead of FULL", x.saw(3, 1), BAD);
        due(16, "how many", x.canBe(0), 6);
        x.teaches(2, 29);
        due(16, "one", x.canBe(0), 1);
        due(16, "in all", x.canBe(2), 2);
        due(17, "one can be", x.show(), NONE);
        for (int bad : new int[] {-1, 3, 99}) {
            due(16, "canBe(" + bad + ")", x.canBe(bad), BAD);
        }
        FalseParity y = told("p31;p0;p3;p12;");
        due(17, "the lowest of several", y.show(), 2);
        due(17, "31 by 1 is less than 32 by 0", told("p0;p31;").show(), 1);
        due(17, "nobody looks for any", told("p0;p0;").show(), 0);
        FalseParity two = told("p30;p0;p1;");
        two.saw(0, 1);
        due(16, "nothing or MARK 0", two.canBe(0), 2);
        due(16, "the least", two.canBe(1), 0);
        due(16, "in all", two.canBe(2), 0);
        due(17, "two can be", two.show(), 2);
        FalseParity full = told("p1;p2;p4;p8;p16;");
        for (int p = 0; p < 5; p++) {
            full.saw(p, 0);
        }
        due(16, "all MARKS", full.canBe(0), 1);
        due(16, "the least", full.canBe(1), 31);
        due(16, "in all", full.canBe(2), 31);
        FalseParity thirty = told("p6;p14;p1;");
        thirty.saw(2, 1);
        due(17, "4 by 12; 2 by 14", thirty.show(), 0);
        FalseParity either = told("p30;p15;");
        either.saw(1, 0);
        due(17, "2 by 28; 0 by 30", either.show(), 0);
    }

    private static void board() {
        FalseParity x = told(FOUR);
        due(18, "uses 21", x.hears(21, 0), BAD);
        due(18, "uses -1", x.hears(-1, 0), BAD);
        due(18, "in 2", x.hears(0, 2), BAD);
        due(18, "in -1", x.hears(0, -1), BAD);
        due(20, "years()", x.years(), 1022);
        due(18, "one", x.hears(4, 0), 1);
        due(20, "above 4", x.years(), 992);
        due(18, "two", x.hears(7, 1), 2);
        due(20, "5 .. 7", x.years(), 224);
        due(18, "three", x.hears(0, 0), 3);
        due(18, "four", x.hears(20, 1), 4);
        due(20, "the same", x.years(), 224);
        due(18, "five", x.hears(20, 0), 5);
        due(20, "none", x.years(), 0);
        due(18, "six", x.hears(0, 1), 6);
        due(18, "a seventh", x.hears(0, 1), FULL);
        due(18, "BAD ahead of FULL", x.hears(21, 1), BAD);
        x.saw(0, 1);
        x.saw(0, 1);
        due(25, "SEEN", x.count(4), 2);
        due(25, "HEARD", x.count(5), 6);
        due(19, "both", x.forget(), 8);
        due(19, "nothing", x.forget(), 0);
        due(19, "SEEN", x.count(4), 0);
        due(19, "HEARD", x.count(5), 0);
        due(20, "years()", x.years(), 1022);
        due(16, "canBe(0)", x.canBe(0), 32);
    }

    private static void lettingIn() {
        FalseParity x = told(FOUR);
        due(21, "which", x.letIn(0), 5);
        due(21, "WORTH", x.letIn(1), 30);
        pass(x, 0, 2, 1);
        due(21, "behind PARITY", x.letIn(0), 4);
        due(21, "WORTH of these alone", x.letIn(1), 10);
        x.sends(1, 1);
        due(21, "not even without any", x.letIn(0), NONE);
        due(21, "not even without any", x.letIn(1), NONE);
        x.sends(0, 1);
        due(21, "10 by 15", x.letIn(0), 0);
        due(21, "none", x.letIn(1), 0);
        due(21, "what 2", x.letIn(2), BAD);
        due(21, "what -1", x.letIn(-1), BAD);
        FalseParity y = told("p0;n30 1 0;n40 1 0;n30 1 0;n99 0 0;s3;");
        due(21, "30 + 30 of 199: the most NOTES, 59 at most", y.letIn(0), 2);
        due(21, "the most WORTH of one", y.letIn(1), 40);
        FalseParity z = told("p0;n10 1 0;n10 1 0;n10 1 0;n10 0 0;s5;");
        due(21, "just 5 by 10; the least bits", z.letIn(0), 3);
        FalseParity all = told("p0;n10 1 0;n10 1 0;s10;");
        due(21, "all", all.letIn(0), 3);
        FalseParity nothing = told("p0;n10 1 0;s0;");
        due(21, "SHARE 0", nothing.letIn(0), 0);
    }

    private static void rating() {
        FalseParity x = told("p0;p1;p0;n20 7 0;n50 3 0;n9 1 0;");
        pass(x, 0, 2, 0);
        pass(x, 1, 1);
        pass(x, 2, 1);
        int[][] rates = {{20, 22, 17, 44, 17, 22}, {50, 50, 48, 100, 49, 52}, {9, 9, 8, 18, 10, 11}};
        long[] traces = {1, 11, 101, 1011, 10101, 100001};
        long trace = 0;
        for (int n = 0; n < 3; n++) {
            for (int kind = 0; kind < 6; kind++) {
                due(22, "rate(" + kind + ", " + n + ")", x.rate(kind, n), rates[n][kind]);
                trace += traces[kind];
                due(26, "trace()", x.trace(), trace);
            }
        }
        for (int bad : new int[] {-1, 6, 99}) {
            due(22, "rate(" + bad + ", 0)", x.rate(bad, 0), NO);
            due(22, "rate(0, " + bad + ")", x.rate(0, bad), NO);
        }
        due(22, "no such NOTE", x.rate(0, 3), NO);
        due(26, "what is refused leaves nothing", x.trace(), trace);
        x.keep(0);
        x.rate(5, 0);
        x.back(0);
        due(26, "no IMAGE has it", x.trace(), trace + 100001);
        FalseParity low = told("p0;n1 31 0;");
        due(22, "below 0", low.rate(2, 0), -4);
    }

    private static void imaging() {
        FalseParity x = told(FOUR);
        pass(x, 0, 3, 2);
        x.sends(2, 1);
        x.teaches(1, 9);
        due(23, "keep(0)", x.keep(0), 1);
        due(23, "may still be undone", x.now(5), 4);
        due(24, "none was kept", x.back(1), STATE);
        pass(x, 1, 3);
        pass(x, 0, 0, 2, 1);
        pass(x, 0, 1, 2, 1);
        x.sends(2, 0);
        x.teaches(1, 3);
        x.saw(0, 1);
        x.hears(3, 1);
        due(23, "keep(1)", x.keep(1), x.now(2));
        int refused = x.now(2);
        due(24, "may be undone", x.now(5) > 0 ? 1 : 0, 1);
        due(24, "back(0)", x.back(0), 1);
        due(24, "nothing can be undone", x.undo(), STATE);
        due(24, "HOLDER", x.note(0, 2), 2);
        due(24, "USES", x.note(0, 3), 1);
        due(24, "PARITY", x.now(0), 0);
        due(24, "AWAY", x.now(1), 4);
        due(24, "LOOKS", x.person(1, 0), 9);
        due(24, "REFUSED", x.now(2), 1);
        due(24, "SEEN stays", x.count(4), 1);
        due(24, "HEARD stays", x.count(5), 1);
        due(24, "back(1)", x.back(1), refused);
        due(24, "LOOKS", x.person(1, 0), 3);
        due(24, "AWAY", x.now(1), 0);
        due(24, "back(0) again", x.back(0), 1);
        due(24, "what is done behind it", x.sends(0, 1), 2);
        due(24, "it can be undone", x.undo(), 0);
        for (int bad : new int[] {-1, 2, 99}) {
            due(23, "keep(" + bad + ")", x.keep(bad), BAD);
            due(24, "back(" + bad + ")", x.back(bad), BAD);
        }
        x.sends(0, 1);
        x.keep(0);
        x.sends(0, 0);
        x.back(0);
        due(23, "kept anew", x.now(1), 5);
        x.sends(0, 0);
        due(24, "BAD", x.back(2), BAD);
        due(24, "what is refused changes nothing", x.now(5), 1);
    }

    private static void face() {
        due(1, "BAD", FalseParity.BAD, BAD);
        due(1, "STATE", FalseParity.STATE, STATE);
        due(1, "FULL", FalseParity.FULL, FULL);
        due(1, "NONE", FalseParity.NONE, NONE);
        due(1, "NO", FalseParity.NO, NO);
        TreeSet<String> open = new TreeSet<>();
        for (Method m : FalseParity.class.getDeclaredMethods()) {
            if (!Modifier.isPrivate(m.getModifiers())) {
                open.add(m.getName() + m.getParameterCount());
                Class<?> answer = m.getName().equals("trace") ? long.class : int.class;
                boolean numbers = Arrays.stream(m.getParameterTypes()).allMatch(t -> t == int.class);
                if (m.getModifiers() != Modifier.PUBLIC || m.getReturnType() != answer || !numbers) {
                    tell("not as the face has it: " + m);
                }
            }
        }
        for (Field f : FalseParity.class.getDeclaredFields()) {
            if (!Modifier.isPrivate(f.getModifiers())) {
                open.add(f.getName());
                if (f.getModifiers() != (Modifier.PUBLIC | Modifier.STATIC | Modifier.FINAL) || f.getType() != int.class) {
                    tell("not as the face has it: " + f);
                }
            }
        }
        for (Constructor<?> c : FalseParity.class.getDeclaredConstructors()) {
            open.add("new" + c.getParameterCount());
            if (c.getModifiers() != Modifier.PUBLIC) {
                tell("not as the face has it: " + c);
            }
        }
        if (FalseParity.class.getModifiers() != (Modifier.PUBLIC | Modifier.FINAL)) {
            tell("the class is not public and final");
        }
        String want = "[BAD, FULL, NO, NONE, STATE, back1, canBe1, clear0, count1, country0, forget0, hears2, keep1, letIn1,"
            + " new0, note2, now1, odds3, passes2, person2, rate2, saw2, sends2, show0, soonest2, teaches2, till1, trace0,"
            + " type1, undo0, years0]";
        if (!open.toString().equals(want)) {
            tell("the face is " + open);
        }
    }

    public static void main(String[] args) {
        face();
        newObject();
        typing();
        texts();
        faultChangesNothing();
        readAnew();
        notesAndPeople();
        passing();
        teachingAndSending();
        undoing();
        soonestAndTill();
        odds();
        marks();
        board();
        lettingIn();
        rating();
        imaging();
        end();
    }
}
