/** The edges of kinds, images and counts: promises 22 to 26, each sentence by itself. */
public final class FalseParityKindEdges extends Checks {
    // ---- rate, trace

    private static final long[] TRACES = {1, 11, 101, 1011, 10101, 100001};

    private static void rates() {
        by("RATE of one as if of a KIND");
        int[][] rates = {{20, 23, 19, 46, 19, 21}, {50, 50, 49, 100, 50, 51}, {10, 10, 9, 20, 11, 11}, {5, 7, 5, 14, 8, 6},
            {9, 10, 8, 20, 12, 10}, {99, 99, 94, 198, 99, 100}};
        for (int n = 0; n < 6; n++) {
            for (int kind = 0; kind < 6; kind++) {
                due("rate(" + kind + ", " + n + ")", rich().rate(kind, n), rates[n][kind]);
            }
        }
        by("RATE may be below 0");
        FalseParity x = told("p0;n1 31 0;n4 31 0;n5 31 0;");
        due("rate(2, 0)", x.rate(2, 0), -4);
        due("rate(2, 1)", x.rate(2, 1), -1);
        due("rate(2, 2)", x.rate(2, 2), 0);
        due("rate(4, 0)", x.rate(4, 0), -4);
        due("rate(4, 1)", x.rate(4, 1), 0);
    }

    private static void ratesRefused() {
        by("Promise 22: NO: BAD");
        range("rate, kind", Checks::rich, 0, 5, (x, kind) -> x.rate(kind, 0), NO);
        range("rate, n", Checks::rich, 0, 5, (x, n) -> x.rate(0, n), NO);
        for (int kind = 0; kind < 6; kind++) {
            int asked = kind;
            unchanging("rate(" + kind + ", 6)", Checks::rich, x -> x.rate(asked, 6), NO);
            unchanging("rate(" + kind + ", -1)", Checks::rich, x -> x.rate(asked, -1), NO);
        }
        unchanging("rate(6, 6)", Checks::rich, x -> x.rate(6, 6), NO);
    }

    private static void traces() {
        by("Promise 26: THE TRACE, 0 at first, as often as rate() asks that body: each once");
        due("trace() at first", new FalseParity().trace(), 0);
        due("trace() behind country()", told(FOUR).trace(), 0);
        for (int kind = 0; kind < 6; kind++) {
            FalseParity x = told(FOUR);
            for (int times = 1; times <= 3; times++) {
                x.rate(kind, times);
                due("rate(" + kind + "), " + times + " times", x.trace(), times * TRACES[kind]);
            }
        }
        by("THE TRACE is not among what is UNDONE, kept in IMAGES, forgotten");
        FalseParity x = told(FOUR);
        x.keep(0);
        x.passes(0, 2);
        x.rate(5, 0);
        x.undo();
        due("behind undo()", x.trace(), 100001);
        x.back(0);
        due("behind back()", x.trace(), 100001);
        x.forget();
        x.clear();
        due("behind forget()", x.trace(), 100001);
        due("asking is not adding", x.trace(), 100001);
        by("THE TRACE is a long: many of the dearest");
        FalseParity y = told("p0;n1 0 0;");
        for (int i = 0; i < 490; i++) {
            y.rate(5, 0);
        }
        due("490 times", y.trace(), 490 * 100001L);
        by("RATE changes THE TRACE alone");
        FalseParity z = rich();
        z.rate(3, 1);
        FalseParity other = rich();
        other.rate(3, 5);
        same("rate()", answers(z), answers(other));
    }

    // ---- keep, back

    private static void imageNumbers() {
        by("IMAGES 0, 1: BAD");
        range("keep", Checks::rich, 0, 1, (x, image) -> x.keep(image), BAD);
        range("back", Checks::rich, 0, 1, (x, image) -> x.back(image), BAD);
        by("Promise 24: STATE: none was kept");
        Maker none = () -> {
            FalseParity x = told(FOUR);
            pass(x, 0, 2, 3);
            return x;
        };
        unchanging("back(0)", none, x -> x.back(0), STATE);
        unchanging("back(1)", none, x -> x.back(1), STATE);
        for (int kept = 0; kept < 2; kept++) {
            int image = kept;
            Maker one = () -> {
                FalseParity x = none.make();
                x.keep(image);
                return x;
            };
            unchanging("back(" + (1 - image) + ")", one, x -> x.back(1 - image), STATE);
            due("back(" + image + ")", one.make().back(image), 1);
        }
        by("Refused, the first of these: BAD, then STATE");
        unchanging("back(2)", none, x -> x.back(2), BAD);
        unchanging("back(-1)", none, x -> x.back(-1), BAD);
    }

    private static void whatIsKept(String what, Call deed, Call asked) {
        for (int image = 0; image < 2; image++) {
            FalseParity x = rich();
            long before = asked.on(x);
            x.keep(image);
            deed.on(x);
            long behind = asked.on(x);
            if (before == behind) {
                tell(what + " did not change by the deed");
            }
            x.keep(1 - image);
            x.back(image);
            due(what + " of the image", asked.on(x), before);
            x.back(1 - image);
            due(what + " of the other image", asked.on(x), behind);
            x.back(image);
            x.back(image);
            due(what + " of the image again", asked.on(x), before);
        }
    }

    private static void allThatIsKept() {
        by("IMAGES keep NOW (HOLDERS)");
        for (int n = 0; n < 6; n++) {
            int note = n;
            int to = n == 5 ? 2 : 0;
            whatIsKept("HOLDER of " + n, x -> moved(x, note, to), x -> x.note(note, 2));
        }
        by("IMAGES keep NOW (USES)");
        for (int n = 0; n < 5; n++) {
            int note = n;
            whatIsKept("USES of " + n, x -> moved(x, note, 0), x -> x.note(note, 3));
        }
        by("IMAGES keep NOW (PARITY)");
        whatIsKept("PARITY", x -> x.passes(4, 2), x -> x.now(0));
        by("IMAGES keep NOW (who is AWAY)");
        for (int n = 0; n < 6; n++) {
            int note = n;
            whatIsKept("AWAY of " + n, x -> x.sends(note, note == 2 ? 0 : 1), x -> x.note(note, 5));
        }
        by("IMAGES keep NOW (LOOKS)");
        for (int p = 0; p < 5; p++) {
            int person = p;
            whatIsKept("LOOKS of " + p, x -> x.teaches(person, 31), x -> x.person(person, 0));
        }
        by("IMAGES keep NOW (how often any was REFUSED)");
        whatIsKept("REFUSED", x -> x.passes(5, 0), x -> x.now(2));
    }

    /** Passes it there, coming again and without anybody looking for its marks. */
    private static int moved(FalseParity x, int n, int to) {
        x.sends(n, 0);
        x.teaches(to, 0);
        int other = x.note(n, 2) == to ? 3 : to;
        x.teaches(other, 0);
        return x.passes(n, other);
    }

    private static void answersOfImages() {
        by("Promise 23, 24: how often any was REFUSED");
        FalseParity x = rich();
        due("keep(0)", x.keep(0), 1);
        x.passes(5, 0);
        due("keep(1)", x.keep(1), 2);
        x.passes(5, 0);
        due("back(0)", x.back(0), 1);
        due("back(1)", x.back(1), 2);
        due("back(0)", x.back(0), 1);
        by("IMAGES: kept anew");
        x.passes(5, 0);
        x.passes(5, 1);
        x.passes(5, 3);
        due("keep(0)", x.keep(0), 4);
        x.undo();
        due("back(0)", x.back(0), 4);
        due("back(1)", x.back(1), 2);
    }

    private static void nothingElse() {
        by("IMAGES keep NOW; nothing else");
        FalseParity x = rich();
        x.keep(0);
        x.saw(2, 1);
        x.hears(20, 1);
        x.type('b');
        x.rate(0, 0);
        x.back(0);
        due("SEEN", x.count(4), 3);
        due("HEARD", x.count(5), 3);
        due("letters", x.count(6), 14);
        due("trace()", x.trace(), 1012);
        by("keep() changes nothing but the IMAGE");
        FalseParity y = rich();
        y.keep(0);
        y.keep(1);
        due("now(5)", y.now(5), 9);
        due("undo()", y.undo(), 8);
        due("HOLDER", y.note(3, 2), 1);
        by("an IMAGE stays as it was kept, whatever is UNDONE");
        due("back(1)", y.back(1), 1);
        due("HOLDER", y.note(3, 2), 2);
    }

    private static void nothingUndoneBehind() {
        by("IMAGES: nothing can be UNDONE behind back()");
        FalseParity x = rich();
        due("now(5)", x.now(5), 9);
        x.back(0);
        due("now(5) behind back()", x.now(5), 0);
        due("undo()", x.undo(), STATE);
        by("what is done behind back() can be UNDONE");
        due("teaches(0, 3)", x.teaches(0, 3), 1);
        due("now(5)", x.now(5), 1);
        due("undo()", x.undo(), 0);
        due("LOOKS", x.person(0, 0), 1);
        due("undo()", x.undo(), STATE);
        for (int i = 0; i < 12; i++) {
            x.teaches(0, i);
        }
        due("ten again", x.now(5), 10);
        by("a back() that is refused leaves what can be UNDONE");
        FalseParity y = told(FOUR);
        y.passes(0, 2);
        due("back(0)", y.back(0), STATE);
        due("back(2)", y.back(2), BAD);
        due("undo()", y.undo(), 0);
    }

    // ---- count

    private static void counts() {
        by("Promise 25: 0 PEOPLE .. 6 letters of THE TEXT");
        int[] counts = {5, 6, 2, 7, 2, 2, 13};
        FalseParity x = rich();
        for (int what = 0; what < 7; what++) {
            due("count(" + what + ")", x.count(what), counts[what]);
        }
        by("Promise 25: BAD");
        range("count", Checks::rich, 0, 6, (y, what) -> y.count(what), BAD);
        by("Promise 25: those AWAY are NOTES, too");
        x.sends(0, 1);
        due("count(1)", x.count(1), 6);
    }

    public static void main(String[] args) {
        rates();
        ratesRefused();
        traces();
        imageNumbers();
        allThatIsKept();
        answersOfImages();
        nothingElse();
        nothingUndoneBehind();
        counts();
        end();
    }
}
