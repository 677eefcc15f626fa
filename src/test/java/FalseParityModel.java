import java.math.BigInteger;
import java.util.ArrayDeque;
import java.util.ArrayList;
import java.util.Arrays;
import java.util.List;
import java.util.regex.Matcher;
import java.util.regex.Pattern;

/**
 * Runs of drawn calls against a second, plain model that tries everything out: rows of passings are
 * walked, odds are counted row by row, sets are sorted. The draws are the same each time.
 */
public final class FalseParityModel {
    private static final int RUNS = 3000;
    private static final int CALLS = 500;
    private static final int BAD = -1, STATE = -2, FULL = -3, NONE = -9, NO = -1000000;

    private static final class Note {
        int worth, marks, holder, uses;
        boolean parity, away;

        Note copy() {
            Note c = new Note();
            c.worth = worth;
            c.marks = marks;
            c.holder = holder;
            c.uses = uses;
            c.parity = parity;
            c.away = away;
            return c;
        }
    }

    private static final class World {
        List<Note> notes = new ArrayList<>();
        List<Integer> looks = new ArrayList<>();
        int refused;

        World copy() {
            World c = new World();
            for (Note n : notes) {
                c.notes.add(n.copy());
            }
            c.looks.addAll(looks);
            c.refused = refused;
            return c;
        }

        boolean takes(Note n, int p) {
            return n.parity || (n.marks & looks.get(p)) == 0;
        }

        /** Whether it was taken. */
        boolean pass(Note n, int p, int board) {
            if (!takes(n, p)) {
                n.uses = 0;
                refused++;
                return false;
            }
            n.holder = p;
            n.uses++;
            n.parity |= n.marks != 0 && n.uses >= board;
            return true;
        }
    }

    private static final class Model {
        StringBuilder text = new StringBuilder();
        World w = new World();
        int board = 3, share = 3;
        ArrayDeque<World> undo = new ArrayDeque<>();
        World[] images = new World[2];
        List<int[]> seen = new ArrayList<>();
        List<int[]> heard = new ArrayList<>();
        long trace;

        private Note noteAt(int n) {
            return n < 0 || n >= w.notes.size() ? null : w.notes.get(n);
        }

        private boolean isPerson(int p) {
            return p >= 0 && p < w.looks.size();
        }

        private void remember() {
            undo.push(w.copy());
            if (undo.size() > 10) {
                undo.removeLast();
            }
        }

        int type(int letter) {
            if (letter < 0 || letter > 255) {
                return BAD;
            }
            if (text.length() == 150) {
                return FULL;
            }
            text.append((char) letter);
            return text.length();
        }

        int clear() {
            int was = text.length();
            text.setLength(0);
            return was;
        }

        int country() {
            Matcher m = Pattern.compile("[0-9]+|[^ ]", Pattern.DOTALL).matcher(text);
            World fresh = new World();
            int newBoard = 0, newShare = -1, items = 0;
            List<String> item = new ArrayList<>();
            while (m.find()) {
                String token = m.group();
                item.add(token);
                if (!stands(item, fresh, newBoard > 0, newShare >= 0)) {
                    return -10 - m.start();
                }
                if (!token.equals(";")) {
                    continue;
                }
                int first = Integer.parseInt(item.get(1));
                if (item.get(0).equals("p")) {
                    fresh.looks.add(first);
                } else if (item.get(0).equals("b")) {
                    newBoard = first;
                } else if (item.get(0).equals("s")) {
                    newShare = first;
                } else {
                    Note n = new Note();
                    n.worth = first;
                    n.marks = Integer.parseInt(item.get(2));
                    n.holder = Integer.parseInt(item.get(3));
                    fresh.notes.add(n);
                }
                items++;
                item.clear();
            }
            if (!item.isEmpty()) {
                return -10 - text.length();
            }
            w = fresh;
            board = newBoard > 0 ? newBoard : 3;
            share = newShare >= 0 ? newShare : 3;
            undo.clear();
            Arrays.fill(images, null);
            seen.clear();
            heard.clear();
            text.setLength(0);
            return items;
        }

        private static boolean stands(List<String> item, World fresh, boolean boardTold, boolean shareTold) {
            int place = item.size() - 1;
            String head = item.get(0);
            String token = item.get(place);
            if (place == 0) {
                return head.equals("p") && fresh.looks.size() < 5 || head.equals("n") && fresh.notes.size() < 6
                    || head.equals("b") && !boardTold || head.equals("s") && !shareTold;
            }
            int last = head.equals("n") ? 4 : 2;
            if (place == last) {
                return token.equals(";");
            }
            if (!token.matches("0|[1-9][0-9]?")) {
                return false;
            }
            int v = Integer.parseInt(token);
            switch (head + place) {
                case "p1":
                case "n2":
                    return v <= 31;
                case "n1":
                    return v >= 1;
                case "n3":
                    return v < fresh.looks.size();
                case "b1":
                    return v >= 1 && v <= 9;
                default:
                    return v <= 10;
            }
        }

        int note(int i, int what) {
            Note n = noteAt(i);
            if (n == null || what < 0 || what > 6) {
                return BAD;
            }
            int takers = 0;
            for (int p = 0; p < w.looks.size(); p++) {
                takers += w.takes(n, p) ? 1 << p : 0;
            }
            return new int[] {n.worth, n.marks, n.holder, n.uses, n.parity ? 1 : 0, n.away ? 1 : 0, takers}[what];
        }

        int person(int p, int what) {
            if (!isPerson(p) || what < 0 || what > 1) {
                return BAD;
            }
            int purse = w.notes.stream().filter(n -> n.holder == p && !n.away).mapToInt(n -> n.worth).sum();
            return what == 0 ? w.looks.get(p) : purse;
        }

        int now(int what) {
            int parity = 0, away = 0, all = 0, falses = 0;
            for (int i = 0; i < w.notes.size(); i++) {
                Note n = w.notes.get(i);
                parity += n.parity ? 1 << i : 0;
                away += n.away ? 1 << i : 0;
                all += n.away ? 0 : n.worth;
                falses += n.away || n.marks == 0 ? 0 : n.worth;
            }
            return what < 0 || what > 5 ? BAD : new int[] {parity, away, w.refused, all, falses, undo.size()}[what];
        }

        int passes(int i, int p) {
            Note n = noteAt(i);
            if (n == null || !isPerson(p)) {
                return BAD;
            }
            if (n.away || n.holder == p || n.uses == 999 || w.refused == 999) {
                return STATE;
            }
            remember();
            return w.pass(n, p, board) ? 1 : 0;
        }

        int teaches(int p, int looks) {
            if (!isPerson(p) || looks < 0 || looks > 31) {
                return BAD;
            }
            remember();
            return w.looks.set(p, looks);
        }

        int sends(int i, int is) {
            Note n = noteAt(i);
            if (n == null || is < 0 || is > 1) {
                return BAD;
            }
            if (n.away == (is == 1)) {
                return STATE;
            }
            remember();
            n.away = is == 1;
            return (int) w.notes.stream().filter(x -> x.away).count();
        }

        int undo() {
            if (undo.isEmpty()) {
                return STATE;
            }
            w = undo.pop();
            return undo.size();
        }

        /** The first row of so many passings by which the note has parity, or null. */
        private List<Integer> row(Note n, int length) {
            if (n.parity) {
                return length == 0 ? new ArrayList<>() : null;
            }
            for (int p = 0; length > 0 && p < w.looks.size(); p++) {
                Note next = n.copy();
                if (p != n.holder && w.takes(n, p) && w.pass(next, p, board)) {
                    List<Integer> rest = row(next, length - 1);
                    if (rest != null) {
                        rest.add(0, p);
                        return rest;
                    }
                }
            }
            return null;
        }

        int soonest(int i, int k) {
            Note n = noteAt(i);
            if (n == null || k < -1) {
                return BAD;
            }
            if (n.away || n.marks == 0 || n.parity) {
                return STATE;
            }
            // A row of fewer passings than are needed can't be: only this length and longer ones are tried.
            for (int length = Math.max(1, board - n.uses); length <= 9; length++) {
                List<Integer> row = row(n, length);
                if (row != null) {
                    return k == -1 ? row.size() : k < row.size() ? row.get(k) : -5;
                }
            }
            return NONE;
        }

        int till(int i) {
            Note n = noteAt(i);
            if (n == null) {
                return BAD;
            }
            if (n.away) {
                return STATE;
            }
            List<Note> where = List.of(n);
            for (int many = 0; many < 40; many++) {
                List<Note> next = new ArrayList<>();
                for (Note at : where) {
                    for (int p = 0; p < w.looks.size(); p++) {
                        Note c = at.copy();
                        boolean known = false;
                        for (Note other : next) {
                            known |= other.holder == p;
                        }
                        if (!known && p != at.holder && w.takes(at, p) && w.pass(c, p, board)) {
                            next.add(c);
                        }
                    }
                }
                if (next.isEmpty()) {
                    return many;
                }
                where = next;
            }
            return -5;
        }

        private int good(Note n, int passings) {
            if (passings == 0) {
                return 1;
            }
            int sum = 0;
            for (int p = 0; p < w.looks.size(); p++) {
                Note c = n.copy();
                if (p != n.holder && w.takes(n, p) && w.pass(c, p, board)) {
                    sum += good(c, passings - 1);
                }
            }
            return sum;
        }

        int odds(int i, int passings, int what) {
            Note n = noteAt(i);
            if (n == null || passings < 0 || passings > 4 || what < 0 || what > 1) {
                return BAD;
            }
            if (n.away) {
                return STATE;
            }
            BigInteger upper = BigInteger.valueOf(good(n, passings));
            BigInteger lower = BigInteger.valueOf(w.looks.size() - 1).pow(passings);
            if (lower.signum() == 0) {
                lower = BigInteger.ONE;
            }
            BigInteger d = upper.gcd(lower);
            return (what == 0 ? upper : lower).divide(d).intValue();
        }

        int saw(int p, int took) {
            if (!isPerson(p) || took < 0 || took > 1) {
                return BAD;
            }
            if (seen.size() == 6) {
                return FULL;
            }
            seen.add(new int[] {p, took});
            return seen.size();
        }

        private List<Integer> possible() {
            List<Integer> sets = new ArrayList<>();
            for (int set = 0; set < 32; set++) {
                Note n = new Note();
                n.marks = set;
                if (seen.stream().allMatch(s -> w.takes(n, s[0]) == (s[1] == 1))) {
                    sets.add(set);
                }
            }
            return sets;
        }

        int canBe(int what) {
            List<Integer> sets = possible();
            if (what < 0 || what > 2) {
                return BAD;
            }
            if (what == 0) {
                return sets.size();
            }
            return sets.isEmpty() ? NONE : what == 1 ? sets.get(0) : sets.stream().reduce(31, (a, b) -> a & b);
        }

        int show() {
            List<Integer> sets = possible();
            int best = NONE, least = 99;
            for (int p = 0; sets.size() > 1 && p < w.looks.size(); p++) {
                int looks = w.looks.get(p);
                int taken = (int) sets.stream().filter(s -> (s & looks) == 0).count();
                if (Math.max(taken, sets.size() - taken) < least) {
                    least = Math.max(taken, sets.size() - taken);
                    best = p;
                }
            }
            return best;
        }

        int hears(int uses, int in) {
            if (uses < 0 || uses > 20 || in < 0 || in > 1) {
                return BAD;
            }
            if (heard.size() == 6) {
                return FULL;
            }
            heard.add(new int[] {uses, in});
            return heard.size();
        }

        int forget() {
            int both = seen.size() + heard.size();
            seen.clear();
            heard.clear();
            return both;
        }

        int years() {
            int bits = 0;
            for (int y = 1; y <= 9; y++) {
                int year = y;
                bits += heard.stream().allMatch(h -> h[1] == (h[0] >= year ? 1 : 0)) ? 1 << y : 0;
            }
            return bits;
        }

        int letIn(int what) {
            if (what < 0 || what > 1) {
                return BAD;
            }
            List<int[]> sets = new ArrayList<>();
            for (int set = 0; set < 1 << w.notes.size(); set++) {
                int worth = 0, parity = 0, all = 0;
                boolean open = true;
                for (int i = 0; i < w.notes.size(); i++) {
                    Note n = w.notes.get(i);
                    boolean in = (set >> i & 1) == 1;
                    open &= !in || n.marks != 0 && !n.parity && !n.away;
                    worth += in ? n.worth : 0;
                    parity += n.parity && !n.away ? n.worth : 0;
                    all += n.away ? 0 : n.worth;
                }
                if (open && (worth + parity) * 10 <= share * all) {
                    sets.add(new int[] {set, worth, Integer.bitCount(set)});
                }
            }
            sets.sort((a, b) -> a[2] != b[2] ? b[2] - a[2] : a[1] != b[1] ? b[1] - a[1] : a[0] - b[0]);
            return sets.isEmpty() ? NONE : sets.get(0)[what];
        }

        int rate(int kind, int i) {
            Note n = noteAt(i);
            if (n == null || kind < 0 || kind > 5) {
                return NO;
            }
            trace += new int[] {1, 11, 101, 1011, 10101, 100001}[kind];
            int marks = Integer.bitCount(n.marks);
            return new int[] {n.worth, n.worth + n.uses, n.worth - marks, 2 * (n.worth + n.uses), n.worth - marks + i,
                n.worth + w.refused}[kind];
        }

        int keep(int image) {
            if (image < 0 || image > 1) {
                return BAD;
            }
            images[image] = w.copy();
            return w.refused;
        }

        int back(int image) {
            if (image < 0 || image > 1) {
                return BAD;
            }
            if (images[image] == null) {
                return STATE;
            }
            w = images[image].copy();
            undo.clear();
            return w.refused;
        }

        int count(int what) {
            int[] counts = {w.looks.size(), w.notes.size(), board, share, seen.size(), heard.size(), text.length()};
            return what < 0 || what > 6 ? BAD : counts[what];
        }
    }

    private static long state = 20261118;
    private static int wrong = 0;
    private static final List<String> calls = new ArrayList<>();

    /** 0 .. below - 1, by a fixed row of numbers. */
    private static int draw(int below) {
        state = state * 6364136223846793005L + 1442695040888963407L;
        return (int) ((state >>> 33) % below);
    }

    private static boolean chance(int percent) {
        return draw(100) < percent;
    }

    /** Mostly 0 .. most, now and then beside it. */
    private static int about(int most) {
        if (chance(3)) {
            return new int[] {-1, -2, most + 1, most + 2, Integer.MAX_VALUE, Integer.MIN_VALUE}[draw(6)];
        }
        return draw(most + 1);
    }

    private static String blanks() {
        return chance(15) ? " ".repeat(1 + draw(2)) : "";
    }

    private static String drawnMarks() {
        return String.valueOf(chance(50) ? 1 << draw(5) : draw(chance(3) ? 40 : 32));
    }

    private static String drawnText() {
        StringBuilder s = new StringBuilder(blanks());
        int people = draw(7) == 0 ? draw(7) : 1 + draw(5);
        for (int p = 0; p < people; p++) {
            s.append("p").append(blanks()).append(chance(25) ? "0" : drawnMarks()).append(blanks()).append(";");
        }
        int notes = chance(4) ? 7 : draw(7);
        for (int n = 0; n < notes; n++) {
            s.append("n").append(blanks()).append(chance(3) ? draw(120) : 1 + draw(chance(50) ? 9 : 99)).append(" ");
            s.append(blanks()).append(chance(25) ? "0" : drawnMarks()).append(" ");
            s.append(chance(3) ? draw(7) : draw(Math.max(1, people))).append(blanks()).append(";");
        }
        if (chance(70)) {
            s.append("b").append(blanks()).append(chance(5) ? draw(12) : 1 + draw(chance(60) ? 3 : 9)).append(";");
        }
        if (chance(70)) {
            s.append("s").append(chance(5) ? draw(13) : draw(11)).append(blanks()).append(";");
        }
        if (chance(4)) {
            s.append(chance(50) ? "b1;" : "s1;");
        }
        if (chance(20) && s.length() > 0) {
            int at = draw(s.length());
            String other = String.valueOf("pnbs; 0123456789xP\n\u00ff".charAt(draw(20)));
            s.replace(at, at + draw(2), chance(50) ? other : "");
        }
        return s.toString();
    }

    private static boolean due(String call, long got, long want) {
        calls.add(call + " = " + got);
        if (got == want) {
            return true;
        }
        wrong++;
        System.out.println("answered " + got + ", due is " + want + ":");
        System.out.println("  " + String.join("; ", calls));
        return false;
    }

    private static boolean typeText(FalseParity x, Model m, String text) {
        for (int i = 0; i < text.length(); i++) {
            int letter = text.charAt(i);
            if (!due("type(" + letter + ")", x.type(letter), m.type(letter))) {
                return false;
            }
        }
        if (!due("country()", x.country(), m.country())) {
            return false;
        }
        return chance(10) || due("clear()", x.clear(), m.clear());
    }

    private static boolean deed(FalseParity x, Model m) {
        int n = about(Math.max(0, m.w.notes.size() - 1));
        int p = about(Math.max(0, m.w.looks.size() - 1));
        switch (draw(10)) {
            case 0: {
                int looks = chance(50) ? 0 : about(31);
                return due("teaches(" + p + ", " + looks + ")", x.teaches(p, looks), m.teaches(p, looks));
            }
            case 1: {
                int is = about(1);
                return due("sends(" + n + ", " + is + ")", x.sends(n, is), m.sends(n, is));
            }
            case 2:
                return due("undo()", x.undo(), m.undo());
            case 3: {
                int took = about(1);
                return due("saw(" + p + ", " + took + ")", x.saw(p, took), m.saw(p, took));
            }
            case 4: {
                int uses = about(20), in = chance(90) ? uses >= 5 ? 1 : 0 : about(1);
                return due("hears(" + uses + ", " + in + ")", x.hears(uses, in), m.hears(uses, in));
            }
            default:
                return due("passes(" + n + ", " + p + ")", x.passes(n, p), m.passes(n, p));
        }
    }

    private static boolean rareDeed(FalseParity x, Model m) {
        int image = about(1);
        switch (draw(5)) {
            case 0:
                return due("forget()", x.forget(), m.forget());
            case 1:
            case 2:
                return due("keep(" + image + ")", x.keep(image), m.keep(image));
            case 3:
                return due("back(" + image + ")", x.back(image), m.back(image));
            default: {
                int letter = about(255);
                return due("type(" + letter + ")", x.type(letter), m.type(letter));
            }
        }
    }

    private static boolean question(FalseParity x, Model m) {
        int n = about(Math.max(0, m.w.notes.size() - 1));
        int p = about(Math.max(0, m.w.looks.size() - 1));
        int a = about(6);
        switch (draw(13)) {
            case 0: return due("note(" + n + ", " + a + ")", x.note(n, a), m.note(n, a));
            case 1: return due("person(" + p + ", " + a % 3 + ")", x.person(p, a % 3), m.person(p, a % 3));
            case 2: return due("now(" + a + ")", x.now(a), m.now(a));
            case 3: return due("soonest(" + n + ", " + (a - 1) + ")", x.soonest(n, a - 1), m.soonest(n, a - 1));
            case 4: return due("till(" + n + ")", x.till(n), m.till(n));
            case 5: {
                int passings = about(4), what = about(1);
                return due("odds(" + n + ", " + passings + ", " + what + ")", x.odds(n, passings, what),
                    m.odds(n, passings, what));
            }
            case 6: return due("canBe(" + a % 3 + ")", x.canBe(a % 3), m.canBe(a % 3));
            case 7: return due("show()", x.show(), m.show());
            case 8: return due("years()", x.years(), m.years());
            case 9: return due("letIn(" + a % 2 + ")", x.letIn(a % 2), m.letIn(a % 2));
            case 10: return due("rate(" + a + ", " + n + ")", x.rate(a, n), m.rate(a, n));
            case 11: return due("count(" + a + ")", x.count(a), m.count(a));
            default: return due("trace()", x.trace(), m.trace);
        }
    }

    private static void run() {
        FalseParity x = new FalseParity();
        Model m = new Model();
        calls.clear();
        boolean right = typeText(x, m, drawnText());
        while (right && calls.size() < CALLS) {
            int kind = draw(1000);
            if (kind < 6) {
                right = typeText(x, m, drawnText());
            } else if (kind < 50) {
                right = rareDeed(x, m);
            } else {
                right = kind < 500 ? deed(x, m) : question(x, m);
            }
        }
    }

    public static void main(String[] args) {
        for (int i = 0; i < RUNS && wrong < 5; i++) {
            run();
        }
        System.out.println(wrong == 0 ? "all answers are as due" : wrong + " runs are not as due");
        if (wrong != 0) {
            System.exit(1);
        }
    }
}
