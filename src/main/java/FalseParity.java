/**
 * Counterfeits that are let in as immigrants: notes with marks, people who look for some of them,
 * and a board that gives a false note parity after so many passings that nobody refused.
 */
public final class FalseParity {
    public static final int BAD = -1, STATE = -2, FULL = -3, NONE = -9;
    /** What none is, where a number may be below 0. */
    public static final int NO = -1000000;

    /** Both "without end" and "not so many". */
    private static final int BEYOND = -5;
    private static final int FAULT = -10;

    private static final int MOST_LETTERS = 150;
    private static final int MOST_PEOPLE = 5;
    private static final int MOST_NOTES = 6;
    private static final int MOST_WORTH = 99;
    private static final int MOST_BOARD = 9;
    private static final int MOST_SHARE = 10;
    private static final int ALL_MARKS = 31;
    private static final int MOST_COUNTED = 999;
    private static final int MOST_UNDONE = 10;
    private static final int MOST_TOLD = 6;
    private static final int MOST_HEARD_USES = 20;
    private static final int MOST_PASSINGS = 4;
    private static final int IMAGES = 2;

    private final Text text;
    private final Reader reader;
    private final Country told;
    private final Now now;
    private final History history;
    private final Images images;
    private final Paths paths;
    private final Marks marks;
    private final Board board;
    private final Kinds kinds;

    public FalseParity() {
        text = new Text();
        reader = new Reader(text);
        told = new Country();
        now = new Now();
        history = new History();
        images = new Images();
        paths = new Paths(told, now);
        marks = new Marks(told, now);
        board = new Board(told, now);
        kinds = new Kinds(told, now);
    }

    // ---- the country

    public int type(int letter) {
        if (letter < 0 || letter > 255) {
            return BAD;
        }
        return text.add(letter);
    }

    public int clear() {
        return text.empty();
    }

    public int country() {
        int items = reader.read();
        if (items < 0) {
            return items;
        }
        told.copyFrom(reader.draft);
        now.begin(told);
        history.empty();
        images.empty();
        marks.empty();
        board.empty();
        text.empty();
        return items;
    }

    public int note(int n, int what) {
        if (!told.hasNote(n)) {
            return BAD;
        }
        switch (what) {
            case 0: return told.worth[n];
            case 1: return told.marks[n];
            case 2: return now.holder(n);
            case 3: return now.uses(n);
            case 4: return now.hasParity(n) ? 1 : 0;
            case 5: return now.isAway(n) ? 1 : 0;
            case 6: return paths.takers(n);
            default: return BAD;
        }
    }

    public int person(int p, int what) {
        if (!told.hasPerson(p)) {
            return BAD;
        }
        switch (what) {
            case 0: return now.looks(p);
            case 1: return purse(p);
            default: return BAD;
        }
    }

    public int now(int what) {
        switch (what) {
            case 0: return now.parity();
            case 1: return now.away();
            case 2: return now.refused();
            case 3: return board.worthOfAll();
            case 4: return board.worthOfFalse();
            case 5: return history.known;
            default: return BAD;
        }
    }

    // ---- what is done

    public int passes(int n, int p) {
        if (!told.hasNote(n) || !told.hasPerson(p)) {
            return BAD;
        }
        if (now.isAway(n) || now.holder(n) == p) {
            return STATE;
        }
        if (now.uses(n) >= MOST_COUNTED || now.refused() >= MOST_COUNTED) {
            return STATE;
        }
        history.push(now);
        if (!paths.takes(n, p)) {
            now.refuse(n);
            return 0;
        }
        now.take(n, p);
        if (told.isFalse(n) && now.uses(n) >= told.board) {
            now.giveParity(n);
        }
        return 1;
    }

    public int teaches(int p, int looks) {
        if (!told.hasPerson(p) || looks < 0 || looks > ALL_MARKS) {
            return BAD;
        }
        int before = now.looks(p);
        history.push(now);
        now.teach(p, looks);
        return before;
    }

    public int sends(int n, int is) {
        if (!told.hasNote(n) || !isYesOrNo(is)) {
            return BAD;
        }
        if (now.isAway(n) == (is == 1)) {
            return STATE;
        }
        history.push(now);
        now.turnAway(n);
        return Integer.bitCount(now.away());
    }

    public int undo() {
        if (history.known == 0) {
            return STATE;
        }
        history.pop(now);
        return history.known;
    }

    // ---- passings

    public int soonest(int n, int k) {
        if (!told.hasNote(n) || k < -1) {
            return BAD;
        }
        if (now.isAway(n) || !told.isFalse(n) || now.hasParity(n)) {
            return STATE;
        }
        int needed = paths.neededForParity(n);
        if (!paths.canGoOn(n, needed)) {
            return NONE;
        }
        if (k == -1) {
            return needed;
        }
        return k < needed ? paths.personOfRow(n, k) : BEYOND;
    }

    public int till(int n) {
        if (!told.hasNote(n)) {
            return BAD;
        }
        return now.isAway(n) ? STATE : paths.most(n);
    }

    public int odds(int n, int passings, int what) {
        if (!told.hasNote(n) || passings < 0 || passings > MOST_PASSINGS || !isYesOrNo(what)) {
            return BAD;
        }
        if (now.isAway(n)) {
            return STATE;
        }
        int upper = paths.waysTaken(n, passings);
        int lower = paths.waysAtAll(passings);
        return inLeastTerms(upper, lower, what);
    }

    // ---- marks

    public int saw(int p, int took) {
        if (!told.hasPerson(p) || !isYesOrNo(took)) {
            return BAD;
        }
        return marks.add(p, took);
    }

    public int canBe(int what) {
        switch (what) {
            case 0: return marks.howMany();
            case 1: return marks.least();
            case 2: return marks.inAll();
            default: return BAD;
        }
    }

    public int show() {
        return marks.bestPerson();
    }

    // ---- the board

    public int hears(int uses, int in) {
        if (uses < 0 || uses > MOST_HEARD_USES || !isYesOrNo(in)) {
            return BAD;
        }
        return board.add(uses, in);
    }

    public int forget() {
        int both = marks.seen + board.heard;
        marks.empty();
        board.empty();
        return both;
    }

    public int years() {
        return board.possibleYears();
    }

    public int letIn(int what) {
        if (!isYesOrNo(what)) {
            return BAD;
        }
        int set = board.bestSet();
        if (set == NONE || what == 0) {
            return set;
        }
        return board.worthOf(set);
    }

    // ---- kinds, images

    public int rate(int kind, int n) {
        return told.hasNote(n) ? kinds.rateAs(kind, n) : NO;
    }

    public int keep(int image) {
        if (!isImage(image)) {
            return BAD;
        }
        images.store(image, now);
        return now.refused();
    }

    public int back(int image) {
        if (!isImage(image)) {
            return BAD;
        }
        if (!images.has(image)) {
            return STATE;
        }
        images.restore(image, now);
        history.empty();
        return now.refused();
    }

    public int count(int what) {
        switch (what) {
            case 0: return told.people;
            case 1: return told.notes;
            case 2: return told.board;
            case 3: return told.share;
            case 4: return marks.seen;
            case 5: return board.heard;
            case 6: return text.length;
            default: return BAD;
        }
    }

    public long trace() {
        return kinds.trace;
    }

    // ---- helpers

    private int purse(int p) {
        int sum = 0;
        for (int n = 0; n < told.notes; n++) {
            if (now.holder(n) == p && !now.isAway(n)) {
                sum += told.worth[n];
            }
        }
        return sum;
    }

    private static boolean isYesOrNo(int number) {
        return number == 0 || number == 1;
    }

    private static boolean isImage(int image) {
        return image >= 0 && image < IMAGES;
    }

    private static boolean hasBit(int bits, int place) {
        return (bits >> place & 1) == 1;
    }

    /** The lower number is 0 only where nobody else is there: that is 0 by 1. */
    private static int inLeastTerms(int upper, int lower, int what) {
        for (int d = lower; d > 0; d--) {
            if (upper % d == 0 && lower % d == 0) {
                return (what == 0 ? upper : lower) / d;
            }
        }
        return what == 0 ? 0 : 1;
    }

    /** THE TEXT, letter by letter. */
    private static final class Text {
        private final int[] letters = new int[MOST_LETTERS];
        private int length;

        int add(int letter) {
            if (length >= MOST_LETTERS) {
                return FULL;
            }
            letters[length] = letter;
            length++;
            return length;
        }

        int empty() {
            int before = length;
            length = 0;
            return before;
        }

        boolean hasDigit(int at) {
            return at >= 0 && at < length && letters[at] >= '0' && letters[at] <= '9';
        }
    }

    /** The people, the notes and the board, as a text told them. */
    private static final class Country {
        private final int[] looks = new int[MOST_PEOPLE];
        private final int[] worth = new int[MOST_NOTES];
        private final int[] marks = new int[MOST_NOTES];
        private final int[] holders = new int[MOST_NOTES];
        private int people;
        private int notes;
        private int board = 3;
        private int share = 3;

        void empty() {
            people = 0;
            notes = 0;
            board = 3;
            share = 3;
        }

        void copyFrom(Country other) {
            System.arraycopy(other.looks, 0, looks, 0, MOST_PEOPLE);
            System.arraycopy(other.worth, 0, worth, 0, MOST_NOTES);
            System.arraycopy(other.marks, 0, marks, 0, MOST_NOTES);
            System.arraycopy(other.holders, 0, holders, 0, MOST_NOTES);
            people = other.people;
            notes = other.notes;
            board = other.board;
            share = other.share;
        }

        boolean hasPerson(int p) {
            return p >= 0 && p < people;
        }

        boolean hasNote(int n) {
            return n >= 0 && n < notes;
        }

        boolean isFalse(int n) {
            return marks[n] != 0;
        }
    }

    /** Reads THE TEXT into a draft, so that a fault leaves the country as it was. */
    private static final class Reader {
        private static final int BLANK = ' ';
        private static final int NO_ITEM = 0;
        /** Above whatever any number of an item may be. */
        private static final int TOO_MUCH = 100;

        private final Text text;
        private final Country draft = new Country();
        private int items;
        private int item;
        private int numbers;
        private boolean boardTold;
        private boolean shareTold;

        Reader(Text text) {
            this.text = text;
        }

        /** How many items, or -10 less the fault. */
        int read() {
            begin();
            for (int at = 0; at < text.length; at++) {
                if (beginsToken(at) && !accepts(at)) {
                    return FAULT - at;
                }
            }
            return item == NO_ITEM ? items : FAULT - text.length;
        }

        private void begin() {
            draft.empty();
            items = 0;
            item = NO_ITEM;
            boardTold = false;
            shareTold = false;
        }

        private boolean beginsToken(int at) {
            if (text.hasDigit(at)) {
                return !text.hasDigit(at - 1);
            }
            return text.letters[at] != BLANK;
        }

        private boolean accepts(int at) {
            int letter = text.letters[at];
            if (item == NO_ITEM) {
                return beginsItem(letter);
            }
            if (numbers < numbersOfItem()) {
                return text.hasDigit(at) && acceptsNumber(numberAt(at));
            }
            return letter == ';' && endsItem();
        }

        private boolean beginsItem(int letter) {
            if (!canBegin(letter)) {
                return false;
            }
            item = letter;
            numbers = 0;
            return true;
        }

        private boolean canBegin(int letter) {
            switch (letter) {
                case 'p': return draft.people < MOST_PEOPLE;
                case 'n': return draft.notes < MOST_NOTES;
                case 'b': return !boardTold;
                case 's': return !shareTold;
                default: return false;
            }
        }

        private int numbersOfItem() {
            return item == 'n' ? 3 : 1;
        }

        /** A number above 99, or with a 0 ahead of others, is TOO_MUCH: it can stand nowhere. */
        private int numberAt(int at) {
            if (text.letters[at] == '0' && text.hasDigit(at + 1)) {
                return TOO_MUCH;
            }
            int value = 0;
            for (int i = at; i < text.length && text.hasDigit(i); i++) {
                value = Math.min(TOO_MUCH, value * 10 + text.letters[i] - '0');
            }
            return value;
        }

        private boolean acceptsNumber(int value) {
            if (value < leastNumber() || value > mostNumber()) {
                return false;
            }
            store(value);
            numbers++;
            return true;
        }

        private int leastNumber() {
            return item == 'b' || item == 'n' && numbers == 0 ? 1 : 0;
        }

        private int mostNumber() {
            switch (item) {
                case 'b': return MOST_BOARD;
                case 's': return MOST_SHARE;
                case 'n': return mostOfNote();
                default: return ALL_MARKS;
            }
        }

        private int mostOfNote() {
            switch (numbers) {
                case 0: return MOST_WORTH;
                case 1: return ALL_MARKS;
                default: return draft.people - 1;
            }
        }

        private void store(int value) {
            switch (item) {
                case 'p':
                    draft.looks[draft.people] = value;
                    break;
                case 'n':
                    storeOfNote(draft.notes, value);
                    break;
                case 'b':
                    draft.board = value;
                    break;
                default:
                    draft.share = value;
                    break;
            }
        }

        private void storeOfNote(int n, int value) {
            switch (numbers) {
                case 0:
                    draft.worth[n] = value;
                    break;
                case 1:
                    draft.marks[n] = value;
                    break;
                default:
                    draft.holders[n] = value;
                    break;
            }
        }

        private boolean endsItem() {
            switch (item) {
                case 'p':
                    draft.people++;
                    break;
                case 'n':
                    draft.notes++;
                    break;
                case 'b':
                    boardTold = true;
                    break;
                default:
                    shareTold = true;
                    break;
            }
            item = NO_ITEM;
            items++;
            return true;
        }
    }

    /** How things are; one row of numbers, so that images and what can be undone are plain copies. */
    private static final class Now {
        private static final int HOLDERS = 0;
        private static final int USES = HOLDERS + MOST_NOTES;
        private static final int LOOKS = USES + MOST_NOTES;
        private static final int PARITY = LOOKS + MOST_PEOPLE;
        private static final int AWAY = PARITY + 1;
        private static final int REFUSED = AWAY + 1;
        private static final int SIZE = REFUSED + 1;

        private final int[] row = new int[SIZE];

        void begin(Country told) {
            System.arraycopy(told.holders, 0, row, HOLDERS, MOST_NOTES);
            System.arraycopy(told.looks, 0, row, LOOKS, MOST_PEOPLE);
            for (int n = 0; n < MOST_NOTES; n++) {
                row[USES + n] = 0;
            }
            row[PARITY] = 0;
            row[AWAY] = 0;
            row[REFUSED] = 0;
        }

        void copyTo(int[] rows, int slot) {
            System.arraycopy(row, 0, rows, slot * SIZE, SIZE);
        }

        void copyFrom(int[] rows, int slot) {
            System.arraycopy(rows, slot * SIZE, row, 0, SIZE);
        }

        int holder(int n) {
            return row[HOLDERS + n];
        }

        int uses(int n) {
            return row[USES + n];
        }

        int looks(int p) {
            return row[LOOKS + p];
        }

        int parity() {
            return row[PARITY];
        }

        int away() {
            return row[AWAY];
        }

        int refused() {
            return row[REFUSED];
        }

        boolean hasParity(int n) {
            return hasBit(row[PARITY], n);
        }

        boolean isAway(int n) {
            return hasBit(row[AWAY], n);
        }

        void take(int n, int p) {
            row[HOLDERS + n] = p;
            row[USES + n]++;
        }

        void giveParity(int n) {
            row[PARITY] |= 1 << n;
        }

        void refuse(int n) {
            row[USES + n] = 0;
            row[REFUSED]++;
        }

        void teach(int p, int looks) {
            row[LOOKS + p] = looks;
        }

        void turnAway(int n) {
            row[AWAY] ^= 1 << n;
        }
    }

    /** How things were ahead of the latest deeds; the oldest is overwritten. */
    private static final class History {
        private final int[] rows = new int[MOST_UNDONE * Now.SIZE];
        private int next;
        private int known;

        void empty() {
            next = 0;
            known = 0;
        }

        void push(Now now) {
            now.copyTo(rows, next);
            next = (next + 1) % MOST_UNDONE;
            known = Math.min(MOST_UNDONE, known + 1);
        }

        void pop(Now now) {
            next = (next + MOST_UNDONE - 1) % MOST_UNDONE;
            known--;
            now.copyFrom(rows, next);
        }
    }

    private static final class Images {
        private final int[] rows = new int[IMAGES * Now.SIZE];
        private int stored;

        void empty() {
            stored = 0;
        }

        boolean has(int image) {
            return hasBit(stored, image);
        }

        void store(int image, Now now) {
            now.copyTo(rows, image);
            stored |= 1 << image;
        }

        void restore(int image, Now now) {
            now.copyFrom(rows, image);
        }
    }

    /** Who takes a note, now and behind passings that are only thought of. */
    private static final class Paths {
        private final Country told;
        private final Now now;

        Paths(Country told, Now now) {
            this.told = told;
            this.now = now;
        }

        int takers(int n) {
            return now.hasParity(n) ? (1 << told.people) - 1 : takersByLooks(n);
        }

        boolean takes(int n, int p) {
            return hasBit(takers(n), p);
        }

        int neededForParity(int n) {
            return told.board - now.uses(n);
        }

        /** Whether so many passings can come one behind another, none refused. */
        boolean canGoOn(int n, int passings) {
            for (int behind = 0; behind < passings; behind++) {
                if (choices(n, behind) == 0) {
                    return false;
                }
            }
            return true;
        }

        /**
         * The k-th person of the first row without parity. The lowest taker is always right: how
         * many may follow him does not depend on which taker he is.
         */
        int personOfRow(int n, int k) {
            int takers = takersByLooks(n);
            int holder = now.holder(n);
            for (int i = 0; i <= k; i++) {
                holder = lowestOther(takers, holder);
            }
            return holder;
        }

        private int lowestOther(int takers, int holder) {
            for (int p = 0; p < told.people; p++) {
                if (p != holder && hasBit(takers, p)) {
                    return p;
                }
            }
            return holder;
        }

        /** From BOARD passings on the choices stay the same, so one more that can be is without end. */
        int most(int n) {
            for (int behind = 0; behind <= MOST_BOARD; behind++) {
                if (choices(n, behind) == 0) {
                    return behind;
                }
            }
            return BEYOND;
        }

        int waysTaken(int n, int passings) {
            int ways = 1;
            for (int behind = 0; behind < passings; behind++) {
                ways *= choices(n, behind);
            }
            return ways;
        }

        int waysAtAll(int passings) {
            int ways = 1;
            for (int i = 0; i < passings; i++) {
                ways *= told.people - 1;
            }
            return ways;
        }

        /** To how many others the note can be passed when so many passings, none refused, are behind. */
        private int choices(int n, int behind) {
            if (hasParityBehind(n, behind)) {
                return told.people - 1;
            }
            int takers = takersByLooks(n);
            boolean holderIsTaker = behind > 0 || hasBit(takers, now.holder(n));
            return Integer.bitCount(takers) - (holderIsTaker ? 1 : 0);
        }

        private boolean hasParityBehind(int n, int behind) {
            return now.hasParity(n) || told.isFalse(n) && now.uses(n) + behind >= told.board;
        }

        private int takersByLooks(int n) {
            int takers = 0;
            for (int p = 0; p < told.people; p++) {
                if ((told.marks[n] & now.looks(p)) == 0) {
                    takers |= 1 << p;
                }
            }
            return takers;
        }
    }

    /** What was SEEN of an unknown note, and which marks it can have by that. */
    private static final class Marks {
        private final Country told;
        private final Now now;
        private final int[] persons = new int[MOST_TOLD];
        private final int[] tooks = new int[MOST_TOLD];
        private int seen;

        Marks(Country told, Now now) {
            this.told = told;
            this.now = now;
        }

        void empty() {
            seen = 0;
        }

        int add(int p, int took) {
            if (seen >= MOST_TOLD) {
                return FULL;
            }
            persons[seen] = p;
            tooks[seen] = took;
            seen++;
            return seen;
        }

        int howMany() {
            int many = 0;
            for (int set = 0; set <= ALL_MARKS; set++) {
                if (fits(set)) {
                    many++;
                }
            }
            return many;
        }

        int least() {
            for (int set = 0; set <= ALL_MARKS; set++) {
                if (fits(set)) {
                    return set;
                }
            }
            return NONE;
        }

        int inAll() {
            int common = NONE;
            for (int set = 0; set <= ALL_MARKS; set++) {
                if (fits(set)) {
                    common = common == NONE ? set : common & set;
                }
            }
            return common;
        }

        int bestPerson() {
            int all = howMany();
            if (all <= 1) {
                return NONE;
            }
            int best = NONE;
            int bestPart = all + 1;
            for (int p = 0; p < told.people; p++) {
                int taken = howManyTakenBy(p);
                int part = Math.max(taken, all - taken);
                if (part < bestPart) {
                    best = p;
                    bestPart = part;
                }
            }
            return best;
        }

        private int howManyTakenBy(int p) {
            int many = 0;
            for (int set = 0; set <= ALL_MARKS; set++) {
                if (fits(set) && wouldTake(p, set) == 1) {
                    many++;
                }
            }
            return many;
        }

        private boolean fits(int set) {
            for (int i = 0; i < seen; i++) {
                if (wouldTake(persons[i], set) != tooks[i]) {
                    return false;
                }
            }
            return true;
        }

        private int wouldTake(int p, int set) {
            return (now.looks(p) & set) == 0 ? 1 : 0;
        }
    }

    /** What was HEARD of the board, and whom it may let in. */
    private static final class Board {
        private final Country told;
        private final Now now;
        private final int[] uses = new int[MOST_TOLD];
        private final int[] ins = new int[MOST_TOLD];
        private int heard;

        Board(Country told, Now now) {
            this.told = told;
            this.now = now;
        }

        void empty() {
            heard = 0;
        }

        int add(int use, int in) {
            if (heard >= MOST_TOLD) {
                return FULL;
            }
            uses[heard] = use;
            ins[heard] = in;
            heard++;
            return heard;
        }

        int possibleYears() {
            int possible = 0;
            for (int year = 1; year <= MOST_BOARD; year++) {
                if (fits(year)) {
                    possible |= 1 << year;
                }
            }
            return possible;
        }

        private boolean fits(int year) {
            for (int i = 0; i < heard; i++) {
                if ((uses[i] >= year) != (ins[i] == 1)) {
                    return false;
                }
            }
            return true;
        }

        int worthOfAll() {
            return worthOf(~now.away());
        }

        int worthOfFalse() {
            return worthOf(falseNotes() & ~now.away());
        }

        /** WORTH of the notes among these bits; bits of notes that there are not count nothing. */
        int worthOf(int set) {
            int sum = 0;
            for (int n = 0; n < told.notes; n++) {
                if (hasBit(set, n)) {
                    sum += told.worth[n];
                }
            }
            return sum;
        }

        int bestSet() {
            int open = falseNotes() & ~now.away() & ~now.parity();
            int room = told.share * worthOfAll() - 10 * worthOf(now.parity() & ~now.away());
            int best = NONE;
            for (int set = 0; set < 1 << MOST_NOTES; set++) {
                if ((set & ~open) == 0 && 10 * worthOf(set) <= room && isBetter(set, best)) {
                    best = set;
                }
            }
            return best;
        }

        private boolean isBetter(int set, int best) {
            if (best == NONE) {
                return true;
            }
            int more = Integer.bitCount(set) - Integer.bitCount(best);
            return more > 0 || more == 0 && worthOf(set) > worthOf(best);
        }

        private int falseNotes() {
            int set = 0;
            for (int n = 0; n < told.notes; n++) {
                if (told.isFalse(n)) {
                    set |= 1 << n;
                }
            }
            return set;
        }
    }

    /** What a note is rated as if of a kind; each body that is asked leaves its number in the trace. */
    private static final class Kinds {
        private final Country told;
        private final Now now;
        private long trace;

        Kinds(Country told, Now now) {
            this.told = told;
            this.now = now;
        }

        int rateAs(int kind, int n) {
            switch (kind) {
                case 0: return asNote(n);
                case 1: return asTwenty(n);
                case 2: return asQueen(n);
                case 3: return asAccent(n);
                case 4: return asNose(n);
                case 5: return asPaper(n);
                default: return NO;
            }
        }

        private int asNote(int n) {
            trace += 1;
            return told.worth[n];
        }

        private int asTwenty(int n) {
            trace += 10;
            return asNote(n) + now.uses(n);
        }

        private int asQueen(int n) {
            trace += 100;
            return asNote(n) - Integer.bitCount(told.marks[n]);
        }

        private int asAccent(int n) {
            trace += 1000;
            return 2 * asTwenty(n);
        }

        private int asNose(int n) {
            trace += 10000;
            return asQueen(n) + n;
        }

        private int asPaper(int n) {
            trace += 100000;
            return asNote(n) + now.refused();
        }
    }
}
