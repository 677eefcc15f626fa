import java.util.ArrayList;
import java.util.List;

/** What the tests share: telling a country, comparing answers, and that a refused call changes nothing. */
abstract class Checks {
    static final int BAD = -1, STATE = -2, FULL = -3, NONE = -9, NO = -1000000;
    static final int MOST_CALLS = 512;

    // Four people, of whom 1 and 2 take note 0; note 3 is true; BOARD 2, SHARE 5.
    static final String FOUR = "p1;p6;p0;p3;n20 1 0;n50 2 1;n10 4 2;n5 0 3;b2;s5;";

    private static String sentence = "";
    private static int wrong = 0;

    interface Call {
        long on(FalseParity x);
    }

    interface NumberCall {
        long on(FalseParity x, int number);
    }

    interface Maker {
        FalseParity make();
    }

    /** The document's sentence that the next answers are due by. */
    static void by(String words) {
        sentence = words;
    }

    static void due(String call, long got, long want) {
        if (got != want) {
            tell(call + " answered " + got + ", due is " + want);
        }
    }

    static void tell(String fault) {
        wrong++;
        System.out.println(sentence + ": " + fault);
    }

    static void end() {
        System.out.println(wrong == 0 ? "all answers are as due" : wrong + " answers are not as due");
        if (wrong != 0) {
            System.exit(1);
        }
    }

    static void type(FalseParity x, String text) {
        for (int i = 0; i < text.length(); i++) {
            x.type(text.charAt(i));
        }
    }

    static int read(FalseParity x, String text) {
        x.clear();
        type(x, text);
        return x.country();
    }

    static FalseParity told(String text) {
        FalseParity x = new FalseParity();
        if (read(x, text) < 0) {
            tell("the text was refused: " + text);
        }
        return x;
    }

    /** What country() answers to this text on a new object. */
    static int reading(String text) {
        return read(new FalseParity(), text);
    }

    static void pass(FalseParity x, int n, int... people) {
        for (int p : people) {
            x.passes(n, p);
        }
    }

    /** Five people and six notes with something of all that can be, by 110 calls at most. */
    static FalseParity rich() {
        FalseParity x = told("p1;p6;p0;p3;p16;n20 1 0;n50 2 1;n10 4 2;n5 0 3;n9 8 0;n99 31 2;b2;s7;");
        pass(x, 0, 2, 1, 3);
        pass(x, 4, 1);
        pass(x, 1, 3);
        x.keep(0);
        x.teaches(4, 17);
        x.sends(2, 1);
        x.keep(1);
        pass(x, 3, 1, 2);
        x.saw(0, 0);
        x.saw(1, 1);
        x.hears(4, 0);
        x.hears(7, 1);
        x.rate(3, 1);
        type(x, "p5;p0;n7 5 1;");
        return x;
    }

    /** How things are NOW, in short. */
    private static void addNow(List<String> row, FalseParity x) {
        for (int what = 0; what < 3; what++) {
            row.add("now(" + what + ") = " + x.now(what));
        }
        int notes = x.count(1);
        for (int n = 0; n < notes; n++) {
            row.add("note(" + n + ", 2) = " + x.note(n, 2));
            row.add("note(" + n + ", 3) = " + x.note(n, 3));
        }
        int people = x.count(0);
        for (int p = 0; p < people; p++) {
            row.add("person(" + p + ", 0) = " + x.person(p, 0));
        }
    }

    private static void addCounts(List<String> row, FalseParity x) {
        for (int what = 0; what < 7; what++) {
            row.add("count(" + what + ") = " + x.count(what));
        }
    }

    private static void addQuestions(List<String> row, FalseParity x) {
        for (int what = 0; what < 3; what++) {
            row.add("canBe(" + what + ") = " + x.canBe(what));
        }
        row.add("show() = " + x.show());
        row.add("years() = " + x.years());
        row.add("letIn(0) = " + x.letIn(0));
        row.add("trace() = " + x.trace());
        row.add("now(3) = " + x.now(3));
        row.add("now(5) = " + x.now(5));
        int notes = x.count(1);
        for (int n = 0; n < notes; n++) {
            row.add("note(" + n + ", 0) = " + x.note(n, 0));
            row.add("note(" + n + ", 1) = " + x.note(n, 1));
            row.add("till(" + n + ") = " + x.till(n));
        }
    }

    /**
     * All that an object answers, what can be undone, the images and the text too, so that two
     * objects with the same row hold the same; the object is spent by it (400 calls at most).
     */
    static List<String> answers(FalseParity x) {
        List<String> row = new ArrayList<>();
        addCounts(row, x);
        addQuestions(row, x);
        addNow(row, x);
        int known = Math.min(10, x.now(5));
        for (int i = 0; i <= known; i++) {
            row.add("undo() = " + x.undo());
            addNow(row, x);
        }
        for (int image = 0; image < 2; image++) {
            row.add("back(" + image + ") = " + x.back(image));
            addNow(row, x);
        }
        row.add("country() = " + x.country());
        addCounts(row, x);
        addNow(row, x);
        return row;
    }

    static void same(String what, List<String> got, List<String> want) {
        for (int i = 0; i < Math.max(got.size(), want.size()); i++) {
            String here = i < got.size() ? got.get(i) : "nothing";
            String there = i < want.size() ? want.get(i) : "nothing";
            if (!here.equals(there)) {
                tell("behind " + what + " came " + here + ", due is " + there);
                return;
            }
        }
    }

    /** The call answers as due, and the object holds what another without that call holds. */
    static void unchanging(String what, Maker maker, Call call, long want) {
        FalseParity x = maker.make();
        due(what, call.on(x), want);
        same(what, answers(x), answers(maker.make()));
    }

    /** Numbers below least and above most, those that come to a right one by wrapping around among them. */
    static int[] outside(int least, int most) {
        return new int[] {least - 1, most + 1, least - 2, most + 2, least - 32, most + 32, least + 32, least + 64,
            least + 256, least + 512, least + 65536, -most - 1, Integer.MIN_VALUE, Integer.MIN_VALUE + 1, Integer.MAX_VALUE};
    }

    /** least and most are taken; what is outside of them is refused so, and changes nothing. */
    static void range(String what, Maker maker, int least, int most, NumberCall call, long refusal) {
        for (int taken : new int[] {least, most}) {
            if (call.on(maker.make(), taken) == refusal) {
                tell(what + " of " + taken + " answered " + refusal + ", it is to be taken");
            }
        }
        for (int number : outside(least, most)) {
            if (number < least || number > most) {
                unchanging(what + " of " + number, maker, x -> call.on(x, number), refusal);
            }
        }
    }
}
