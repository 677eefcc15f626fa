import java.util.ArrayDeque;

/** The edges of what is done and what is told of it: promises 5 to 11, each sentence by itself. */
public final class FalseParityDeedEdges extends Checks {
    // ---- note, person, now

    private static void atFirst() {
        by("At first no NOTE has PARITY, all USES are 0, none is AWAY");
        FalseParity x = told("p0;n1 1 0;n2 2 0;n3 3 0;n4 4 0;n5 5 0;n6 0 0;b1;");
        for (int n = 0; n < 6; n++) {
            due("note(" + n + ", 3)", x.note(n, 3), 0);
            due("note(" + n + ", 4)", x.note(n, 4), 0);
            due("note(" + n + ", 5)", x.note(n, 5), 0);
        }
        for (int what : new int[] {0, 1, 2, 5}) {
            due("now(" + what + ")", x.now(what), 0);
        }
    }

    private static void whatOfNote() {
        by("Promise 5: 0 WORTH .. 6 TAKERS (bits)");
        FalseParity x = rich();
        int[][] notes = {{20, 1, 3, 3, 1, 0, 31}, {50, 2, 1, 0, 0, 0, 21}, {10, 4, 2, 0, 0, 1, 29}, {5, 0, 2, 2, 0, 0, 31},
            {9, 8, 1, 1, 0, 0, 31}, {99, 31, 2, 0, 0, 0, 4}};
        for (int n = 0; n < 6; n++) {
            for (int what = 0; what < 7; what++) {
                due("note(" + n + ", " + what + ")", x.note(n, what), notes[n][what]);
            }
        }
        by("Promise 5: BAD");
        range("note, n", Checks::rich, 0, 5, (y, n) -> y.note(n, 0), BAD);
        range("note, what", Checks::rich, 0, 6, (y, what) -> y.note(0, what), BAD);
    }

    private static void whatOfPerson() {
        by("Promise 6: 0 LOOKS (bits), 1 PURSE");
        FalseParity x = rich();
        int[][] people = {{1, 0}, {6, 59}, {0, 104}, {3, 20}, {17, 0}};
        for (int p = 0; p < 5; p++) {
            for (int what = 0; what < 2; what++) {
                due("person(" + p + ", " + what + ")", x.person(p, what), people[p][what]);
            }
        }
        by("Promise 6: BAD");
        range("person, p", Checks::rich, 0, 4, (y, p) -> y.person(p, 0), BAD);
        range("person, what", Checks::rich, 0, 1, (y, what) -> y.person(1, what), BAD);
    }

    private static void purse() {
        by("PURSE of a PERSON: WORTH of NOTES that he holds, not AWAY");
        FalseParity x = told("p0;p0;n99 1 0;n99 1 0;n99 1 0;n99 0 0;n99 0 0;n99 0 0;");
        due("all of them", x.person(0, 1), 594);
        due("none of them", x.person(1, 1), 0);
        for (int n = 0; n < 6; n++) {
            x.sends(n, 1);
            due("not those AWAY", x.person(0, 1), 495 - 99 * n);
        }
        x.sends(5, 0);
        due("what comes again", x.person(0, 1), 99);
        x.passes(5, 1);
        due("what he gave", x.person(0, 1), 0);
        due("what he got", x.person(1, 1), 99);
    }

    private static void whatOfNow() {
        by("Promise 7: 0 PARITY (bits) .. 5 how many may be UNDONE");
        int[] nows = {1, 4, 1, 183, 178, 9};
        FalseParity x = rich();
        for (int what = 0; what < 6; what++) {
            due("now(" + what + ")", x.now(what), nows[what]);
        }
        by("Promise 7: BAD");
        range("now", Checks::rich, 0, 5, (y, what) -> y.now(what), BAD);
    }

    private static void worthAway() {
        by("AWAY: its WORTH does not count");
        FalseParity x = told("p0;p0;n1 1 0;n2 0 0;n4 2 0;n8 0 1;n16 31 1;n32 4 0;s10;");
        due("now(3)", x.now(3), 63);
        due("now(4)", x.now(4), 53);
        int[] all = {62, 60, 56, 48, 32, 0};
        int[] falses = {52, 52, 48, 48, 32, 0};
        for (int n = 0; n < 6; n++) {
            due("sends(" + n + ", 1)", x.sends(n, 1), n + 1);
            due("now(3)", x.now(3), all[n]);
            due("now(4)", x.now(4), falses[n]);
            due("note(" + n + ", 0)", x.note(n, 0), 1 << n);
        }
        due("now(1)", x.now(1), 63);
        due("letIn(0)", x.letIn(0), 0);
    }

    private static void falseWorthWithParity() {
        by("Promise 7: WORTH of all false ones, those with PARITY too");
        FalseParity x = told("p0;p0;n10 1 0;n20 2 0;n40 0 0;b1;");
        x.passes(0, 1);
        due("now(0)", x.now(0), 1);
        due("now(4)", x.now(4), 30);
    }

    // ---- passes

    private static void takes() {
        by("A PERSON TAKES a NOTE, if none of its MARKS is among his LOOKS");
        for (int marks = 0; marks <= 31; marks++) {
            FalseParity x = told("p31;p0;n1 " + marks + " 0;b9;");
            for (int looks = 0; looks <= 31; looks++) {
                x.teaches(1, looks);
                boolean taken = (marks & looks) == 0;
                due("TAKERS, MARKS " + marks + ", LOOKS " + looks, x.note(0, 6) >> 1, taken ? 1 : 0);
                due("passes, MARKS " + marks + ", LOOKS " + looks, x.passes(0, 1), taken ? 1 : 0);
                x.undo();
            }
        }
        by("A PERSON TAKES a NOTE, if it has PARITY");
        FalseParity x = told("p0;p0;n1 31 0;b1;");
        x.passes(0, 1);
        x.teaches(0, 31);
        due("TAKERS", x.note(0, 6), 3);
        due("passes(0, 0)", x.passes(0, 0), 1);
        by("TAKERS: PEOPLE who TAKE it, its HOLDER too");
        due("a HOLDER who takes it", told("p0;p1;n1 1 0;").note(0, 6), 1);
        due("a HOLDER who does not", told("p1;p0;n1 1 0;").note(0, 6), 2);
        due("all", told("p0;p0;p0;p0;p0;n1 31 0;").note(0, 6), 31);
        due("none", told("p1;p2;p4;p8;p16;n1 31 0;").note(0, 6), 0);
    }

    private static void boardUses() {
        by("a false NOTE of BOARD USES or more has PARITY from then on");
        for (int board = 1; board <= 9; board++) {
            FalseParity x = told("p0;p0;n1 1 0;n1 0 0;b" + board + ";");
            for (int uses = 1; uses <= board + 2; uses++) {
                due("passes", x.passes(0, uses % 2), 1);
                due("USES", x.note(0, 3), uses);
                due("PARITY by BOARD " + board + " of USES " + uses, x.note(0, 4), uses >= board ? 1 : 0);
                due("passes of a true one", x.passes(1, uses % 2), 1);
                due("PARITY of a true one", x.note(1, 4), 0);
            }
            due("now(0)", x.now(0), 1);
            x.teaches(0, 31);
            x.teaches(1, 31);
            due("they look for it from then on", x.passes(0, 1 - board % 2), 1);
            due("PARITY", x.note(0, 4), 1);
        }
    }

    private static void refusedOne() {
        by("REFUSED: its USES are 0, the HOLDER keeps it; counted, for all NOTES");
        FalseParity x = told("p0;p0;p1;n1 1 0;n1 1 0;n1 0 0;b3;");
        pass(x, 0, 1, 0);
        pass(x, 1, 1);
        due("passes(0, 2)", x.passes(0, 2), 0);
        due("USES", x.note(0, 3), 0);
        due("HOLDER", x.note(0, 2), 0);
        due("no PARITY", x.note(0, 4), 0);
        due("now(2)", x.now(2), 1);
        due("USES of another", x.note(1, 3), 1);
        due("passes(1, 2)", x.passes(1, 2), 0);
        due("for all NOTES", x.now(2), 2);
        due("with USES of 0", x.passes(1, 2), 0);
        due("now(2)", x.now(2), 3);
        due("USES", x.note(1, 3), 0);
        by("USES are 0: BOARD USES from there");
        pass(x, 0, 1, 0);
        due("not yet", x.note(0, 4), 0);
        pass(x, 0, 1);
        due("now", x.note(0, 4), 1);
    }

    private static void passesRefused() {
        by("Promise 8: BAD");
        range("passes, n", Checks::rich, 0, 5, (x, n) -> x.passes(n, 4), BAD);
        range("passes, p", Checks::rich, 0, 4, (x, p) -> x.passes(0, p), BAD);
        by("Promise 8: STATE: it is AWAY");
        for (int p = 0; p < 5; p++) {
            int to = p;
            unchanging("passes(2, " + p + ")", Checks::rich, x -> x.passes(2, to), STATE);
        }
        by("AWAY: or comes again");
        FalseParity again = rich();
        again.sends(2, 0);
        due("passes(2, 0)", again.passes(2, 0), 1);
        by("Promise 8: STATE: he is its HOLDER");
        int[] holders = {3, 1, 2, 2, 1, 2};
        for (int n = 0; n < 6; n++) {
            int note = n;
            unchanging("passes to its HOLDER", Checks::rich, x -> x.passes(note, holders[note]), STATE);
        }
        unchanging("alone", () -> told("p0;n1 1 0;"), x -> x.passes(0, 0), STATE);
        by("Refused, the first of these: BAD, then STATE");
        unchanging("passes(2, 5)", Checks::rich, x -> x.passes(2, 5), BAD);
        unchanging("passes(2, -1)", Checks::rich, x -> x.passes(2, -1), BAD);
    }

    /** Nothing is promised beyond the 512th call, but no shorter run comes to 999. */
    private static FalseParity used(int times) {
        FalseParity x = told("p0;p0;p1;n1 1 0;n1 1 0;b9;");
        for (int i = 0; i < times; i++) {
            x.passes(0, 1 - i % 2);
        }
        return x;
    }

    private static void mostUses() {
        by("USES are 1 more (999 at most)");
        FalseParity x = used(998);
        due("USES", x.note(0, 3), 998);
        due("the 999th", x.passes(0, 1), 1);
        due("USES", x.note(0, 3), 999);
        by("Promise 8: STATE: its USES are 999");
        unchanging("passes(0, 0)", () -> used(999), y -> y.passes(0, 0), STATE);
        unchanging("passes(0, 2)", () -> used(999), y -> y.passes(0, 2), STATE);
        due("another NOTE", x.passes(1, 1), 1);
        due("undo()", x.undo(), 9);
        due("undo()", x.undo(), 8);
        due("USES", x.note(0, 3), 998);
        due("the 999th again", x.passes(0, 1), 1);
        due("one more", x.passes(0, 0), STATE);
    }

    private static FalseParity refusedOften(int times) {
        FalseParity x = told("p0;p0;p1;n1 1 0;n1 1 0;n1 0 0;");
        for (int i = 0; i < times; i++) {
            x.passes(i % 2, 2);
        }
        return x;
    }

    private static void mostRefused() {
        by("REFUSED (counted, for all NOTES; 999 at most)");
        FalseParity x = refusedOften(998);
        due("now(2)", x.now(2), 998);
        due("TAKEN", x.passes(2, 1), 1);
        due("the 999th", x.passes(0, 2), 0);
        due("now(2)", x.now(2), 999);
        due("rate(5, 0)", x.rate(5, 0), 1000);
        due("keep(0)", x.keep(0), 999);
        by("Promise 8: STATE: how often any was REFUSED is 999");
        unchanging("passes(0, 2)", () -> refusedOften(999), y -> y.passes(0, 2), STATE);
        unchanging("passes(0, 1)", () -> refusedOften(999), y -> y.passes(0, 1), STATE);
        unchanging("passes(2, 1)", () -> refusedOften(999), y -> y.passes(2, 1), STATE);
        due("teaches(2, 0)", x.teaches(2, 0), 1);
        due("passes(0, 2)", x.passes(0, 2), STATE);
        due("undo()", x.undo(), 9);
        due("undo()", x.undo(), 8);
        due("now(2)", x.now(2), 998);
        due("passes(0, 1)", x.passes(0, 1), 1);
    }

    // ---- teaches, sends

    private static void teaching() {
        by("Promise 9: TAUGHT: what LOOKS were");
        FalseParity x = told("p7;p8;");
        int before = 7;
        for (int looks = 31; looks >= 0; looks--) {
            due("teaches(0, " + looks + ")", x.teaches(0, looks), before);
            due("person(0, 0)", x.person(0, 0), looks);
            before = looks;
        }
        due("the same LOOKS", x.teaches(0, 0), 0);
        due("another PERSON", x.person(1, 0), 8);
        by("Promise 9: the same LOOKS are not refused: they can be UNDONE");
        FalseParity y = told("p7;");
        due("teaches(0, 7)", y.teaches(0, 7), 7);
        due("now(5)", y.now(5), 1);
        due("undo()", y.undo(), 0);
        by("Promise 9: BAD");
        range("teaches, p", Checks::rich, 0, 4, (z, p) -> z.teaches(p, 0), BAD);
        range("teaches, looks", Checks::rich, 0, 31, (z, looks) -> z.teaches(0, looks), BAD);
        by("TAUGHT: what he holds, and USES, are as they were");
        FalseParity z = told("p0;p0;n1 1 0;b3;");
        z.passes(0, 1);
        z.teaches(1, 1);
        due("HOLDER", z.note(0, 2), 1);
        due("USES", z.note(0, 3), 1);
    }

    private static void sending() {
        by("Promise 10: AWAY (1), again (0): how many are AWAY");
        FalseParity x = told("p0;n1 1 0;n1 1 0;n1 1 0;n1 0 0;n1 0 0;n1 0 0;");
        for (int n = 0; n < 6; n++) {
            due("sends(" + n + ", 1)", x.sends(n, 1), n + 1);
            due("now(1)", x.now(1), (2 << n) - 1);
        }
        for (int n = 0; n < 6; n++) {
            due("sends(" + n + ", 0)", x.sends(n, 0), 5 - n);
            due("now(1)", x.now(1), 62 << n & 63);
        }
        by("Promise 10: STATE: it is so");
        for (int n = 0; n < 6; n++) {
            int note = n;
            unchanging("sends(" + n + ")", Checks::rich, y -> y.sends(note, note == 2 ? 1 : 0), STATE);
        }
        by("Promise 10: BAD");
        range("sends, n", Checks::rich, 0, 5, (y, n) -> y.sends(n, 1), BAD);
        range("sends, n, again", Checks::rich, 0, 5, (y, n) -> y.sends(n, 0), BAD);
        range("sends, is, AWAY", Checks::rich, 0, 1, (y, is) -> y.sends(2, is), BAD);
        range("sends, is, not AWAY", Checks::rich, 0, 1, (y, is) -> y.sends(0, is), BAD);
        by("AWAY: HOLDER, USES, PARITY are as they were");
        FalseParity y = rich();
        y.sends(0, 1);
        due("HOLDER", y.note(0, 2), 3);
        due("USES", y.note(0, 3), 3);
        due("PARITY", y.now(0), 1);
        y.sends(0, 0);
        due("PARITY", y.now(0), 1);
        due("passes(0, 0)", y.passes(0, 0), 1);
        due("USES", y.note(0, 3), 4);
    }

    // ---- undo

    private static void undoneOne() {
        by("UNDONE: the latest passes(), that was TAKEN");
        FalseParity x = told("p0;p0;p1;n1 1 0;b1;");
        x.passes(0, 1);
        due("undo()", x.undo(), 0);
        due("HOLDER", x.note(0, 2), 0);
        due("USES", x.note(0, 3), 0);
        due("PARITY", x.note(0, 4), 0);
        by("UNDONE: the latest passes(), that was REFUSED");
        FalseParity y = told("p0;p0;p1;n1 1 0;b3;");
        pass(y, 0, 1, 2);
        due("undo()", y.undo(), 1);
        due("USES", y.note(0, 3), 1);
        due("now(2)", y.now(2), 0);
        by("UNDONE: the latest teaches()");
        y.teaches(1, 31);
        due("undo()", y.undo(), 1);
        due("LOOKS", y.person(1, 0), 0);
        by("UNDONE: the latest sends()");
        y.sends(0, 1);
        due("undo()", y.undo(), 1);
        due("AWAY", y.note(0, 5), 0);
        y.sends(0, 1);
        y.sends(0, 0);
        due("undo()", y.undo(), 2);
        due("AWAY", y.note(0, 5), 1);
        by("Promise 11: STATE: none");
        unchanging("undo()", () -> told(FOUR), z -> z.undo(), STATE);
        unchanging("undo()", FalseParity::new, z -> z.undo(), STATE);
    }

    private static FalseParity taught(int times) {
        FalseParity x = told("p0;");
        for (int i = 1; i <= times; i++) {
            x.teaches(0, i);
        }
        return x;
    }

    private static void tenAreKnown() {
        by("UNDONE (10 are known, older ones are lost)");
        for (int times = 0; times <= 31; times++) {
            FalseParity x = taught(times);
            int known = Math.min(10, times);
            due("now(5) behind " + times, x.now(5), known);
            for (int more = known - 1; more >= 0; more--) {
                due("undo() behind " + times, x.undo(), more);
            }
            due("LOOKS behind " + times, x.person(0, 0), times - known);
            due("undo() behind " + times, x.undo(), STATE);
            due("LOOKS, refused", x.person(0, 0), times - known);
        }
    }

    private static void aroundAndAround() {
        by("UNDONE (10 are known): again and again");
        FalseParity x = told("p0;");
        ArrayDeque<Integer> known = new ArrayDeque<>();
        int looks = 0;
        for (int i = 0; i < 200; i++) {
            if (i % 7 < 4) {
                known.push(looks);
                if (known.size() > 10) {
                    known.removeLast();
                }
                due("teaches", x.teaches(0, i % 32), looks);
                looks = i % 32;
            } else if (i % 70 < 40 || known.isEmpty()) {
                due("LOOKS", x.person(0, 0), looks);
            } else {
                looks = known.pop();
                due("undo()", x.undo(), known.size());
            }
        }
        due("now(5)", x.now(5), known.size());
    }

    private static void notKnown() {
        by("UNDONE: passes(), teaches(), sends() that was not refused");
        FalseParity x = told(FOUR);
        x.passes(0, 0);
        x.passes(0, 4);
        x.teaches(0, 32);
        x.sends(0, 0);
        x.sends(0, 2);
        due("now(5)", x.now(5), 0);
        x.saw(0, 1);
        x.hears(0, 1);
        x.rate(0, 0);
        x.keep(0);
        x.forget();
        x.type('p');
        x.country();
        due("now(5)", x.now(5), 0);
        x.passes(0, 3);
        due("a REFUSED one", x.now(5), 1);
        by("UNDONE: nothing else is");
        x.saw(0, 1);
        x.hears(0, 1);
        x.type('1');
        x.undo();
        due("SEEN", x.count(4), 1);
        due("HEARD", x.count(5), 1);
        due("letters", x.count(6), 2);
        due("trace()", x.trace(), 1);
        due("back(0)", x.back(0), 0);
    }

    public static void main(String[] args) {
        atFirst();
        whatOfNote();
        whatOfPerson();
        purse();
        whatOfNow();
        worthAway();
        falseWorthWithParity();
        takes();
        boardUses();
        refusedOne();
        passesRefused();
        mostUses();
        mostRefused();
        teaching();
        sending();
        undoneOne();
        tenAreKnown();
        aroundAndAround();
        notKnown();
        end();
    }
}
