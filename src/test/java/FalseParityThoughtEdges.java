/** The edges of what is only thought of, SEEN and HEARD: promises 12 to 21, each sentence by itself. */
public final class FalseParityThoughtEdges extends Checks {
    // ---- soonest, till

    private static FalseParity usedSoFar(int board, int uses) {
        FalseParity x = told("p0;p0;n1 1 0;b" + board + ";");
        for (int i = 1; i <= uses; i++) {
            x.passes(0, i % 2);
        }
        return x;
    }

    private static void soonestByBoard() {
        by("SOONEST: the fewest PASSINGS by which it has PARITY: how many; the k-th PERSON (-5: not so many)");
        for (int board = 1; board <= 9; board++) {
            for (int uses = 0; uses < board; uses++) {
                FalseParity x = usedSoFar(board, uses);
                int many = board - uses;
                due("how many", x.soonest(0, -1), many);
                for (int k = 0; k < many; k++) {
                    due("the " + k + "-th", x.soonest(0, k), (uses + k + 1) % 2);
                }
                due("not so many", x.soonest(0, many), -5);
                due("not so many", x.soonest(0, many + 1), -5);
                due("not so many", x.soonest(0, Integer.MAX_VALUE), -5);
            }
            due("STATE at BOARD", usedSoFar(board, board).soonest(0, -1), STATE);
        }
    }

    private static void row(String text, int... people) {
        FalseParity x = told(text);
        due("how many by " + text, x.soonest(0, -1), people.length);
        for (int k = 0; k < people.length; k++) {
            due("the " + k + "-th by " + text, x.soonest(0, k), people[k]);
        }
        due("not so many by " + text, x.soonest(0, people.length), -5);
    }

    private static void firstRow() {
        by("SOONEST: of several rows the first (PERSON by PERSON)");
        row("p0;p0;p0;p0;p0;n1 1 0;b4;", 1, 0, 1, 0);
        row("p0;p0;p0;p0;p0;n1 1 4;b3;", 0, 1, 0);
        row("p1;p0;p1;p0;p0;n1 1 1;b3;", 3, 1, 3);
        row("p1;p1;p1;p0;p0;n1 1 0;b3;", 3, 4, 3);
        row("p1;p1;p1;p0;p0;n1 1 4;b2;", 3, 4);
        row("p1;p0;n1 1 0;b1;", 1);
        row("p0;p1;p1;p1;p0;n1 1 0;b1;", 4);
    }

    private static void none(String text) {
        FalseParity x = told(text);
        for (int k : new int[] {-1, 0, 1, 9, Integer.MAX_VALUE}) {
            due("soonest(0, " + k + ") by " + text, x.soonest(0, k), NONE);
        }
    }

    private static void soonestNone() {
        by("SOONEST: NONE");
        none("p0;n1 1 0;b1;");
        none("p0;p1;n1 1 0;b1;");
        none("p1;p0;p1;n1 1 0;b2;");
        none("p0;p1;p1;p1;p1;n1 1 0;b9;");
        none("p1;p2;p4;p8;p16;n1 31 2;b1;");
        none("p1;p1;n1 1 0;");
    }

    private static void soonestRefused() {
        by("Promise 12: BAD (below -1)");
        for (int k : new int[] {-2, -3, -32, Integer.MIN_VALUE, Integer.MIN_VALUE + 1}) {
            unchanging("soonest(4, " + k + ")", Checks::rich, x -> x.soonest(4, k), BAD);
        }
        by("Promise 12: BAD");
        range("soonest, n", Checks::rich, 0, 5, (x, n) -> x.soonest(n, -1), BAD);
        by("Promise 12: STATE: it is AWAY");
        unchanging("soonest(2, -1)", Checks::rich, x -> x.soonest(2, -1), STATE);
        unchanging("soonest(2, 0)", Checks::rich, x -> x.soonest(2, 0), STATE);
        by("Promise 12: STATE: true");
        unchanging("soonest(3, -1)", Checks::rich, x -> x.soonest(3, -1), STATE);
        unchanging("soonest(3, 99)", Checks::rich, x -> x.soonest(3, 99), STATE);
        by("Promise 12: STATE: has PARITY");
        unchanging("soonest(0, -1)", Checks::rich, x -> x.soonest(0, -1), STATE);
        unchanging("soonest(0, 0)", Checks::rich, x -> x.soonest(0, 0), STATE);
        by("Refused, the first of these: BAD, then STATE");
        for (int n : new int[] {0, 2, 3}) {
            unchanging("soonest(" + n + ", -2)", Checks::rich, x -> x.soonest(n, -2), BAD);
        }
    }

    private static void till() {
        by("TILL: the most PASSINGS one behind another, none REFUSED");
        due("alone", told("p0;n1 1 0;").till(0), 0);
        due("alone, true", told("p0;n1 0 0;").till(0), 0);
        due("nobody takes it", told("p1;p1;n1 1 0;b1;").till(0), 0);
        due("only its HOLDER takes it", told("p0;p1;p1;n1 1 0;b1;").till(0), 0);
        due("one takes it", told("p1;p0;p1;n1 1 0;b2;").till(0), 1);
        due("one takes it, BOARD 9", told("p1;p0;p1;n1 1 2;b9;").till(0), 1);
        by("TILL: -5: without end");
        due("its HOLDER and another", told("p0;p0;p1;n1 1 0;b9;").till(0), -5);
        due("two others", told("p1;p0;p0;n1 1 0;b9;").till(0), -5);
        due("true, of two", told("p31;p31;n1 0 0;").till(0), -5);
        due("all", told("p0;p0;p0;p0;p0;n1 31 0;b9;").till(0), -5);
        by("TILL (PARITY comes as told)");
        due("by one", told("p1;p0;n1 1 0;b1;").till(0), -5);
        FalseParity x = told("p0;p0;p1;n1 1 0;b3;");
        pass(x, 0, 1, 0);
        x.teaches(0, 1);
        due("by the third", x.till(0), -5);
        x.passes(0, 2);
        due("by one, USES are 0", x.till(0), 1);
        FalseParity y = told("p0;p0;n1 1 0;b2;");
        pass(y, 0, 1, 0);
        y.teaches(0, 1);
        y.teaches(1, 1);
        due("has PARITY", y.till(0), -5);
        by("Promise 13: BAD");
        range("till, n", Checks::rich, 0, 5, (z, n) -> z.till(n), BAD);
        by("Promise 13: STATE: it is AWAY");
        unchanging("till(2)", Checks::rich, z -> z.till(2), STATE);
        due("again", tillAgain(), -5);
    }

    private static int tillAgain() {
        FalseParity x = rich();
        x.sends(2, 0);
        return x.till(2);
    }

    // ---- odds

    private static void fraction(FalseParity x, int n, int passings, int upper, int lower) {
        String call = "odds(" + n + ", " + passings + ", ";
        due(call + "0)", x.odds(n, passings, 0), upper);
        due(call + "1)", x.odds(n, passings, 1), lower);
    }

    private static void oddsByPassings() {
        by("ODDS by n (0 .. 4): n PASSINGS, each to any other PERSON, each as likely");
        FalseParity x = told("p0;p0;p1;n1 1 0;n1 1 2;n1 0 0;b9;");
        int[][] held = {{1, 1}, {1, 2}, {1, 4}, {1, 8}, {1, 16}};
        int[][] other = {{1, 1}, {1, 1}, {1, 2}, {1, 4}, {1, 8}};
        for (int passings = 0; passings <= 4; passings++) {
            fraction(x, 0, passings, held[passings][0], held[passings][1]);
            fraction(x, 1, passings, other[passings][0], other[passings][1]);
            fraction(x, 2, passings, 1, 1);
        }
        by("Promise 14: in least terms");
        FalseParity y = told("p0;p0;p0;p1;p1;n1 1 3;n1 1 0;b9;");
        int[][] three = {{1, 1}, {3, 4}, {3, 8}, {3, 16}, {3, 32}};
        for (int passings = 0; passings <= 4; passings++) {
            fraction(y, 0, passings, three[passings][0], three[passings][1]);
            fraction(y, 1, passings, 1, 1 << passings);
        }
        FalseParity z = told("p0;p0;p0;p0;p1;n1 1 0;b9;");
        fraction(z, 0, 4, 81, 256);
        FalseParity none = told("p1;p1;p1;p1;p1;n1 1 0;b9;");
        for (int passings = 1; passings <= 4; passings++) {
            fraction(none, 0, passings, 0, 1);
        }
        fraction(none, 0, 0, 1, 1);
    }

    private static void oddsByParity() {
        by("ODDS (PARITY comes as told)");
        for (int board = 1; board <= 9; board++) {
            FalseParity x = told("p0;p0;p1;n1 1 0;b" + board + ";");
            for (int passings = 0; passings <= 4; passings++) {
                fraction(x, 0, passings, 1, 1 << Math.min(board, passings));
            }
        }
        FalseParity y = told("p0;p0;p1;n1 1 0;b4;");
        pass(y, 0, 1, 0);
        fraction(y, 0, 4, 1, 4);
        pass(y, 0, 1);
        fraction(y, 0, 4, 1, 2);
        pass(y, 0, 0);
        fraction(y, 0, 4, 1, 1);
    }

    private static void oddsAlone() {
        by("ODDS: nobody else there: 0 by 1, but by n 0");
        FalseParity x = told("p0;n1 1 0;n1 0 0;b1;");
        for (int n = 0; n < 2; n++) {
            fraction(x, n, 0, 1, 1);
            for (int passings = 1; passings <= 4; passings++) {
                fraction(x, n, passings, 0, 1);
            }
        }
    }

    private static void oddsRefused() {
        by("Promise 14: BAD");
        range("odds, n", Checks::rich, 0, 5, (x, n) -> x.odds(n, 0, 0), BAD);
        range("odds, passings", Checks::rich, 0, 4, (x, passings) -> x.odds(1, passings, 1), BAD);
        range("odds, what", Checks::rich, 0, 1, (x, what) -> x.odds(1, 1, what), BAD);
        by("Promise 14: STATE: it is AWAY");
        for (int passings = 0; passings <= 4; passings++) {
            int many = passings;
            unchanging("odds(2, " + passings + ", 0)", Checks::rich, x -> x.odds(2, many, 0), STATE);
            unchanging("odds(2, " + passings + ", 1)", Checks::rich, x -> x.odds(2, many, 1), STATE);
        }
        by("Refused, the first of these: BAD, then STATE");
        unchanging("odds(2, 5, 0)", Checks::rich, x -> x.odds(2, 5, 0), BAD);
        unchanging("odds(2, -1, 0)", Checks::rich, x -> x.odds(2, -1, 0), BAD);
        unchanging("odds(2, 0, 2)", Checks::rich, x -> x.odds(2, 0, 2), BAD);
        unchanging("odds(2, 0, -1)", Checks::rich, x -> x.odds(2, 0, -1), BAD);
    }

    private static void questionsChangeNothing() {
        by("(As things are NOW; nothing is changed.)");
        FalseParity x = rich();
        for (int n = 0; n < 6; n++) {
            x.soonest(n, -1);
            x.soonest(n, 1);
            x.till(n);
            x.odds(n, 4, 1);
        }
        x.show();
        x.letIn(1);
        x.canBe(2);
        x.years();
        same("the questions", answers(x), answers(rich()));
    }

    // ---- saw, canBe, show

    private static FalseParity sawSix() {
        FalseParity x = rich();
        for (int i = 2; i < 6; i++) {
            x.saw(2, 1);
        }
        return x;
    }

    private static void mostSeen() {
        by("SEEN (6 at most)");
        FalseParity x = told("p1;p2;p4;p8;p16;");
        for (int i = 1; i <= 6; i++) {
            due("saw " + i, x.saw(i % 5, 0), i);
            due("count(4)", x.count(4), i);
        }
        due("saw 7", x.saw(0, 0), FULL);
        due("count(4)", x.count(4), 6);
        due("all six count", x.canBe(1), 31);
        by("SEEN (6 at most): FULL, and nothing changes");
        unchanging("saw(0, 0)", FalseParityThoughtEdges::sawSix, y -> y.saw(0, 0), FULL);
        unchanging("saw(0, 1)", FalseParityThoughtEdges::sawSix, y -> y.saw(0, 1), FULL);
        by("Refused, the first of these: BAD, then FULL");
        unchanging("saw(5, 0)", FalseParityThoughtEdges::sawSix, y -> y.saw(5, 0), BAD);
        unchanging("saw(-1, 0)", FalseParityThoughtEdges::sawSix, y -> y.saw(-1, 0), BAD);
        unchanging("saw(0, 2)", FalseParityThoughtEdges::sawSix, y -> y.saw(0, 2), BAD);
        by("Promise 15: BAD");
        range("saw, p", Checks::rich, 0, 4, (y, p) -> y.saw(p, 0), BAD);
        range("saw, took", Checks::rich, 0, 1, (y, took) -> y.saw(0, took), BAD);
    }

    private static void canBeOf(FalseParity x, int many, int least, int inAll) {
        due("canBe(0)", x.canBe(0), many);
        due("canBe(1)", x.canBe(1), least);
        due("canBe(2)", x.canBe(2), inAll);
    }

    private static void canBe() {
        by("CAN BE: sets of MARKS (0 .. 31) by which all that was SEEN is so");
        canBeOf(new FalseParity(), 32, 0, 0);
        for (int looks = 0; looks <= 31; looks++) {
            FalseParity took = told("p" + looks + ";");
            took.saw(0, 1);
            int free = 1 << 5 - Integer.bitCount(looks);
            canBeOf(took, free, 0, 0);
            FalseParity not = told("p" + looks + ";");
            not.saw(0, 0);
            int lowest = Integer.lowestOneBit(looks);
            boolean one = Integer.bitCount(looks) == 1;
            canBeOf(not, 32 - free, looks == 0 ? NONE : lowest, looks == 0 ? NONE : one ? looks : 0);
        }
        by("CAN BE: just one");
        FalseParity x = told("p1;p2;p4;p8;p16;");
        for (int p = 0; p < 5; p++) {
            x.saw(p, p % 2);
        }
        canBeOf(x, 1, 21, 21);
        by("CAN BE: NONE");
        x.saw(0, 1);
        canBeOf(x, 0, NONE, NONE);
        by("CAN BE: 31 alone, 0 alone");
        FalseParity all = told("p1;p2;p4;p8;p16;");
        FalseParity no = told("p31;");
        for (int p = 0; p < 5; p++) {
            all.saw(p, 0);
        }
        no.saw(0, 1);
        canBeOf(all, 1, 31, 31);
        canBeOf(no, 1, 0, 0);
        by("CAN BE (LOOKS as NOW)");
        no.teaches(0, 15);
        canBeOf(no, 2, 0, 0);
        no.undo();
        canBeOf(no, 1, 0, 0);
        by("Promise 16: BAD");
        range("canBe", Checks::rich, 0, 2, (y, what) -> y.canBe(what), BAD);
    }

    private static void show() {
        by("SHOW: the PERSON by whom the greater part of CAN BE is smallest");
        due("16 by 16", told("p31;p3;p0;p4;p2;").show(), 3);
        due("1 by 31", told("p0;p31;").show(), 1);
        due("2 by 30", told("p0;p31;p15;").show(), 2);
        due("half of what was SEEN", shownBehind("p1;p3;p30;p4;", 1, 1), 3);
        by("SHOW: of several the lowest");
        due("all the same", told("p1;p2;p4;p8;p16;").show(), 0);
        due("two the same", told("p0;p3;p5;p0;p24;").show(), 1);
        due("all TAKEN, or none", shownBehind("p0;p1;", 1, 0), 0);
        due("none TAKEN, or all", shownBehind("p1;p0;", 0, 0), 0);
        due("nobody tells anything", told("p0;p0;p0;").show(), 0);
        by("SHOW: NONE (nobody)");
        due("a new object", new FalseParity().show(), NONE);
        due("nobody told", told("b1;").show(), NONE);
        by("SHOW: NONE (one can be at most)");
        FalseParity x = told("p1;p2;p4;p8;p16;");
        for (int p = 0; p < 4; p++) {
            x.saw(p, 0);
        }
        due("two can be", x.canBe(0), 2);
        due("show() of two", x.show(), 4);
        x.saw(4, 1);
        due("one can be", x.canBe(0), 1);
        due("show() of one", x.show(), NONE);
        x.saw(4, 0);
        due("none can be", x.canBe(0), 0);
        due("show() of none", x.show(), NONE);
        x.teaches(4, 0);
        due("LOOKS as NOW: none can be", x.show(), NONE);
    }

    private static int shownBehind(String text, int p, int took) {
        FalseParity x = told(text);
        x.saw(p, took);
        return x.show();
    }

    // ---- hears, forget, years

    private static FalseParity heardSix() {
        FalseParity x = rich();
        for (int i = 2; i < 6; i++) {
            x.hears(20, 1);
        }
        return x;
    }

    private static void mostHeard() {
        by("HEARD (6 at most)");
        FalseParity x = new FalseParity();
        for (int i = 1; i <= 6; i++) {
            due("hears " + i, x.hears(i, 0), i);
            due("count(5)", x.count(5), i);
        }
        due("hears 7", x.hears(7, 0), FULL);
        due("count(5)", x.count(5), 6);
        due("all six count", x.years(), 896);
        by("HEARD (6 at most): FULL, and nothing changes");
        unchanging("hears(0, 0)", FalseParityThoughtEdges::heardSix, y -> y.hears(0, 0), FULL);
        unchanging("hears(20, 0)", FalseParityThoughtEdges::heardSix, y -> y.hears(20, 0), FULL);
        by("Refused, the first of these: BAD, then FULL");
        unchanging("hears(21, 0)", FalseParityThoughtEdges::heardSix, y -> y.hears(21, 0), BAD);
        unchanging("hears(-1, 0)", FalseParityThoughtEdges::heardSix, y -> y.hears(-1, 0), BAD);
        unchanging("hears(0, 2)", FalseParityThoughtEdges::heardSix, y -> y.hears(0, 2), BAD);
        by("HEARD: u USES (0 .. 20)");
        range("hears, uses", Checks::rich, 0, 20, (y, uses) -> y.hears(uses, 1), BAD);
        by("HEARD: was let in (1), or was not (0)");
        range("hears, in", Checks::rich, 0, 1, (y, in) -> y.hears(5, in), BAD);
    }

    private static void years() {
        by("YEARS: 1 .. 9 (let in just from so many USES on)");
        due("nothing HEARD", new FalseParity().years(), 1022);
        for (int uses = 0; uses <= 20; uses++) {
            FalseParity in = new FalseParity();
            FalseParity out = new FalseParity();
            in.hears(uses, 1);
            out.hears(uses, 0);
            int upTo = (2 << Math.min(9, uses)) - 2;
            due("let in with " + uses, in.years(), upTo);
            due("not let in with " + uses, out.years(), 1022 & ~upTo);
        }
        for (int year = 1; year <= 9; year++) {
            FalseParity x = new FalseParity();
            x.hears(year, 1);
            x.hears(year - 1, 0);
            due("just " + year, x.years(), 1 << year);
            x.hears(year, 0);
            due("none", x.years(), 0);
        }
        by("YEARS: were they BOARD; BOARD itself is not asked");
        due("BOARD 9", told("b9;").years(), 1022);
    }

    private static void forgetting() {
        by("Promise 19: nothing was SEEN, HEARD: how much both were");
        due("nothing", new FalseParity().forget(), 0);
        FalseParity seen = told("p1;");
        seen.saw(0, 0);
        due("SEEN alone", seen.forget(), 1);
        due("canBe(0)", seen.canBe(0), 32);
        FalseParity heard = new FalseParity();
        heard.hears(3, 1);
        heard.hears(3, 0);
        due("HEARD alone", heard.forget(), 2);
        due("years()", heard.years(), 1022);
        FalseParity x = sawSix();
        for (int i = 2; i < 6; i++) {
            x.hears(20, 1);
        }
        due("both full", x.forget(), 12);
        due("again", x.forget(), 0);
        due("count(4)", x.count(4), 0);
        due("count(5)", x.count(5), 0);
        due("there is room again", x.saw(0, 0), 1);
        due("there is room again", x.hears(4, 0), 1);
        by("Promise 19: nothing else is");
        x.saw(1, 1);
        x.hears(7, 1);
        same("forget()", answers(x), answers(rich()));
    }

    // ---- letIn

    private static void lets(String why, FalseParity x, int which, int worth) {
        due(why + ": which", x.letIn(0), which);
        due(why + ": WORTH", x.letIn(1), worth);
    }

    private static void shareByTen() {
        by("LET IN: SHARE by 10 of WORTH of all NOTES not AWAY at most");
        for (int share = 1; share <= 8; share++) {
            lets("just as much", told("p0;n" + share + " 1 0;n" + (10 - share) + " 0 0;s" + share + ";"), 1, share);
            lets("1 more", told("p0;n" + (share + 1) + " 1 0;n" + (9 - share) + " 0 0;s" + share + ";"), 0, 0);
        }
        lets("one more than 3 of 10", told("p0;n31 1 0;n69 0 0;s3;"), 0, 0);
        lets("3 of 10", told("p0;n30 1 0;n70 0 0;s3;"), 1, 30);
        lets("29 of 99, rounded down", told("p0;n29 1 0;n70 0 0;s3;"), 1, 29);
        lets("30 of 99, rounded up", told("p0;n30 1 0;n69 0 0;s3;"), 0, 0);
        lets("SHARE 10", told("p0;n99 1 0;n99 1 0;n99 1 0;n99 1 0;n99 1 0;n99 1 0;s10;"), 63, 594);
        lets("SHARE 9", told("p0;n99 1 0;n99 1 0;n99 1 0;n99 1 0;n99 1 0;n99 1 0;s9;"), 31, 495);
        lets("SHARE 0", told("p0;n1 1 0;n99 0 0;s0;"), 0, 0);
        lets("no NOTES", told("p0;s0;"), 0, 0);
        lets("nobody", new FalseParity(), 0, 0);
        lets("true ones alone", told("p0;n5 0 0;n5 0 0;s10;"), 0, 0);
    }

    private static void whichSet() {
        by("LET IN: that of most NOTES");
        lets("two small ones, not the great one", told("p0;n50 1 0;n1 1 0;n2 1 0;n47 0 0;s5;"), 6, 3);
        by("LET IN: of several that of most WORTH");
        lets("the greater of two", told("p0;n20 1 0;n30 1 0;n50 0 0;s3;"), 2, 30);
        lets("20 and 10, not 10 and 10", told("p0;n10 1 0;n10 1 0;n20 1 0;n60 0 0;s3;"), 5, 30);
        by("LET IN: of these the least bits");
        lets("the first of the same", told("p0;n10 1 0;n10 1 0;n10 1 0;n10 0 0;s3;"), 1, 10);
        lets("0 and 3, or 1 and 2", told("p0;n1 1 0;n2 1 0;n3 1 0;n4 1 0;s5;"), 6, 5);
        by("LET IN: of all sets of false NOTES without PARITY, not AWAY");
        FalseParity x = told("p0;p0;n10 1 0;n20 1 0;n30 0 0;n40 0 0;b1;s6;");
        lets("all false ones", x, 3, 30);
        x.passes(0, 1);
        lets("without that of PARITY", x, 2, 20);
        x.sends(1, 1);
        lets("without what is AWAY", x, 0, 0);
        x.sends(1, 0);
        lets("it comes again", x, 2, 20);
        x.sends(0, 1);
        lets("of PARITY, AWAY", x, 2, 20);
    }

    private static void notEvenWithoutAny() {
        by("LET IN: NONE (not even without any)");
        FalseParity x = told("p0;p0;n30 1 0;n10 1 0;n60 0 0;b1;s3;");
        x.passes(0, 1);
        lets("just SHARE without any", x, 0, 0);
        x.sends(1, 1);
        due("which", x.letIn(0), NONE);
        due("WORTH", x.letIn(1), NONE);
        x.sends(1, 0);
        lets("just SHARE again", x, 0, 0);
        x.sends(2, 1);
        due("which", x.letIn(0), NONE);
        x.sends(0, 1);
        lets("what has PARITY is AWAY", x, 0, 0);
        FalseParity zero = told("p0;p0;n1 1 0;n99 0 0;b1;s0;");
        lets("SHARE 0 without PARITY", zero, 0, 0);
        zero.passes(0, 1);
        due("SHARE 0 with PARITY", zero.letIn(0), NONE);
        due("SHARE 0 with PARITY", zero.letIn(1), NONE);
        by("Promise 21: BAD");
        range("letIn", Checks::rich, 0, 1, (y, what) -> y.letIn(what), BAD);
        range("letIn, where none is", FalseParityThoughtEdges::noneToLetIn, 0, 1, (y, what) -> y.letIn(what), BAD);
    }

    private static FalseParity noneToLetIn() {
        FalseParity x = told("p0;p0;n1 1 0;b1;s0;");
        x.passes(0, 1);
        return x;
    }

    public static void main(String[] args) {
        soonestByBoard();
        firstRow();
        soonestNone();
        soonestRefused();
        till();
        oddsByPassings();
        oddsByParity();
        oddsAlone();
        oddsRefused();
        questionsChangeNothing();
        mostSeen();
        canBe();
        show();
        mostHeard();
        years();
        forgetting();
        shareByTen();
        whichSet();
        notEvenWithoutAny();
        end();
    }
}
