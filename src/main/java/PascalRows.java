/**
 * Pascal's rows modulo prime powers. The document (../shared/DOC.md) says what each call promises;
 * the words in capitals here are its terms.
 */
public final class PascalRows {
    public static final int NONE = -1, BAD = -2, STATE = -3, FULL = -4;
    public static final long NO = Long.MIN_VALUE;

    private static final int MISSING = -5, FAULT = -10;
    private static final int NOTHING = -11, CAST = -12, PLACE = -13, SIZE = -14;
    private static final int CUT_SHORT = 200;
    private static final int LAST_ROW = 127, LAST_VALUE = 2400, LAST_KIND = 4, LAST_NUMBER = 9999;
    private static final int MOST_IN_PATCH = 32, MOST_TIMES = 9, BOOK_PLACE = 10;
    private static final int[] PRIMES = {2, 3, 5, 7};

    private final Triangle triangle = new Triangle();
    private final Setup now = new Setup(triangle);
    private final Setup kept = new Setup(triangle);
    private final Setup trial = new Setup(triangle);
    private final Reader reader = new Reader();
    private final Tapes tapes = new Tapes();
    private boolean hasImage;

    public PascalRows() {
    }

    // ---- the prime, marks

    public int prime(int p) {
        if (p != 2 && p != 3 && p != 5 && p != 7) {
            return BAD;
        }
        int was = now.p;
        now.become(p, now.e);
        return was;
    }

    public int power(int e) {
        if (!isWithin(e, 1, 4)) {
            return BAD;
        }
        int was = now.e;
        now.become(now.p, e);
        return was;
    }

    public int mark(int kind, int v) {
        if (!isWithin(kind, 0, LAST_KIND)) {
            return NONE;
        }
        if (!isWithin(v, 0, LAST_VALUE)) {
            return BAD;
        }
        return now.marks.add(kind, v, 0);
    }

    public int clear() {
        int were = now.marks.size;
        now.marks.empty();
        return were;
    }

    public int window(int row, int place) {
        if (!isWithin(row, 0, LAST_ROW) || !isWithin(place, 0, LAST_ROW)) {
            return BAD;
        }
        int was = 1000 * now.windowRow + now.windowPlace;
        now.windowRow = row;
        now.windowPlace = place;
        return was;
    }

    public int feed(int sign) {
        return isWithin(sign, 0, 127) ? reader.add(sign) : BAD;
    }

    public int read() {
        int fault = reader.faultOfText();
        reader.emptyText();
        if (fault != NONE) {
            return FAULT - fault;
        }
        int done = 0;
        for (int i = 0; i < reader.clauses.size; i++) {
            if (doClause(reader.clauses.number(i, 0), reader.clauses.number(i, 1), reader.clauses.number(i, 2)) >= 0) {
                done++;
            }
        }
        return done;
    }

    private int doClause(int letter, int first, int second) {
        switch (letter) {
            case 'p':
                return prime(first);
            case 'e':
                return power(first);
            case 'm':
                return mark(first, second);
            case 'w':
                return window(first, second);
            default:
                return clear();
        }
    }

    // ---- what is told

    public int told(int what) {
        switch (what) {
            case 0:
                return now.p;
            case 1:
                return now.e;
            case 2:
                return now.modulus;
            case 3:
                return now.marks.size;
            case 4:
                return now.windowRow;
            case 5:
                return now.windowPlace;
            case 6:
                return now.markedInWindow();
            default:
                return NONE;
        }
    }

    public int markOf(int mark, int what) {
        if (!isWithin(mark, 0, now.marks.size - 1) || !isWithin(what, 0, 1)) {
            return NONE;
        }
        return now.marks.number(mark, what);
    }

    public int at(int row, int place) {
        return isRow(row) ? now.remainder(row, place) : NONE;
    }

    public int rule(int kind, int row, int place) {
        if (!isWithin(kind, 0, LAST_KIND) || !isPlace(row, place)) {
            return NONE;
        }
        return now.tell(kind, row, place);
    }

    public int marked(int row, int place) {
        if (!isPlace(row, place)) {
            return NONE;
        }
        return now.isMarked(row, place) ? 1 : 0;
    }

    public int digit(int v, int i) {
        if (!isWithin(v, 0, LAST_NUMBER)) {
            return BAD;
        }
        if (i < -1) {
            return NONE;
        }
        int there = Digits.howMany(now.p, v);
        if (i == -1) {
            return there;
        }
        return i < there ? Digits.one(now.p, v, i) : MISSING;
    }

    public int pure(int v, int what) {
        if (!isWithin(v, 1, LAST_NUMBER)) {
            return BAD;
        }
        if (!isWithin(what, 0, 1)) {
            return NONE;
        }
        return what == 0 ? Digits.withoutPrime(now.p, v) : Digits.timesDivided(now.p, v);
    }

    // ---- rows

    public int counted(int row, int v) {
        return isRow(row) ? countOf(row, v) : NONE;
    }

    public int row(int row, int what) {
        if (!isRow(row)) {
            return NONE;
        }
        switch (what) {
            case 0:
                return kindsOf(row);
            case 1:
                return usualOf(row);
            case 2:
                return sumOf(row);
            case 3:
                return depthOf(row);
            default:
                return NONE;
        }
    }

    public int kind(int row, int i) {
        if (!isRow(row) || i < 0) {
            return NONE;
        }
        int v = NONE;
        for (int j = 0; j <= i && j <= row + 1; j++) {
            v = nextKind(row, v);
            if (v == NONE) {
                return MISSING;
            }
        }
        return v;
    }

    public int upTo(int row, int what) {
        if (!isRow(row)) {
            return NONE;
        }
        switch (what) {
            case 0:
                return fullRows(row);
            case 1:
                return lastFullRow(row);
            case 2:
                return heaviestRow(row);
            default:
                return NONE;
        }
    }

    private int countOf(int row, int v) {
        int places = 0;
        for (int place = 0; place <= row; place++) {
            if (now.remainder(row, place) == v) {
                places++;
            }
        }
        return places;
    }

    /** The least REMAINDER of a row that is above v; NONE, if no place has one. */
    private int nextKind(int row, int v) {
        int least = NONE;
        // A row reads alike from both its ends, so its first half has all its KINDS.
        for (int place = 0; place <= row / 2; place++) {
            int here = now.remainder(row, place);
            if (here > v && (least == NONE || here < least)) {
                least = here;
            }
        }
        return least;
    }

    private int kindsOf(int row) {
        int v = NONE;
        for (int kinds = 0; kinds <= row; kinds++) {
            v = nextKind(row, v);
            if (v == NONE) {
                return kinds;
            }
        }
        return row + 1;
    }

    private int usualOf(int row) {
        int usual = NONE;
        int most = 0;
        int v = NONE;
        for (int i = 0; i <= row; i++) {
            v = nextKind(row, v);
            if (v == NONE) {
                return usual;
            }
            int places = countOf(row, v);
            if (places > most) {
                most = places;
                usual = v;
            }
        }
        return usual;
    }

    private int sumOf(int row) {
        int sum = 0;
        for (int place = 0; place <= row; place++) {
            sum += now.remainder(row, place);
        }
        return sum;
    }

    private int depthOf(int row) {
        int depth = 0;
        for (int place = 0; place <= row; place++) {
            depth = Math.max(depth, Digits.carries(now.p, row, place));
        }
        return depth;
    }

    private int fullRows(int last) {
        int full = 0;
        for (int row = 0; row <= last; row++) {
            if (countOf(row, 0) == 0) {
                full++;
            }
        }
        return full;
    }

    private int lastFullRow(int last) {
        for (int row = last; row > 0; row--) {
            if (countOf(row, 0) == 0) {
                return row;
            }
        }
        // Row 0 is FULL by every M: its one place has REMAINDER 1.
        return 0;
    }

    private int heaviestRow(int last) {
        int heaviest = 0;
        int most = 0;
        for (int row = 0; row <= last; row++) {
            int places = countOf(row, 0);
            if (places > most) {
                most = places;
                heaviest = row;
            }
        }
        return heaviest;
    }

    // ---- patches

    public int picture(int i) {
        return isWithin(i, 0, Setup.WINDOW - 1) ? now.pictureRow(i) : NONE;
    }

    public int like(int a, int b, int c, int d, int s) {
        // Where a patch begins, row and place alike are 0 .. 127, the place within its row or not.
        if (!isRow(a) || !isRow(b) || !isRow(c) || !isRow(d)) {
            return NONE;
        }
        if (!isWithin(s, 1, MOST_IN_PATCH)) {
            return BAD;
        }
        return areLike(a, b, c, d, s) ? 1 : 0;
    }

    public int scaled(int s, int t) {
        if (!isWithin(s, 1, MOST_IN_PATCH) || !isWithin(t, 1, MOST_TIMES)) {
            return BAD;
        }
        return areLike(0, 0, t * s, 0, s) ? 1 : 0;
    }

    private boolean areLike(int a, int b, int c, int d, int s) {
        for (int row = 0; row < s; row++) {
            for (int place = 0; place < s; place++) {
                if (now.remainder(a + row, b + place) != now.remainder(c + row, d + place)) {
                    return false;
                }
            }
        }
        return true;
    }

    // ---- seen, odds

    public int see(int row, int place, int v) {
        if (row == -1) {
            now.seen.empty();
            return 0;
        }
        if (!isPlace(row, place)) {
            return NONE;
        }
        return isWithin(v, 0, LAST_VALUE) ? now.seen.add(row, place, v) : BAD;
    }

    public int fits() {
        int bits = 0;
        for (int i = 0; i < PRIMES.length; i++) {
            if (isSeenBy(PRIMES[i])) {
                bits |= 1 << i;
            }
        }
        return bits;
    }

    private boolean isSeenBy(int p) {
        int modulus = Digits.powerOf(p, now.e);
        for (int i = 0; i < now.seen.size; i++) {
            if (triangle.remainder(now.seen.number(i, 0), now.seen.number(i, 1), modulus) != now.seen.number(i, 2)) {
                return false;
            }
        }
        return true;
    }

    public long odds(int row, int kind, int v, int part) {
        if (!isRow(row) || !isWithin(kind, 0, LAST_KIND) || !isWithin(part, 0, 1)) {
            return NO;
        }
        int places = 0;
        for (int place = 0; place <= row; place++) {
            if (now.tell(kind, row, place) == v) {
                places++;
            }
        }
        return partOfFraction(places, row + 1, part);
    }

    public long mean(int row, int part) {
        if (!isRow(row) || !isWithin(part, 0, 1)) {
            return NO;
        }
        return partOfFraction(sumOf(row), row + 1, part);
    }

    /** What stands above (part 0) or below the line of a fraction in lowest terms. */
    private static int partOfFraction(int above, int below, int part) {
        int divisor = Digits.commonDivisor(above, below);
        int whole = part == 0 ? above : below;
        return divisor > 0 ? whole / divisor : whole;
    }

    // ---- events, books

    public int event(int what, int n) {
        if (what == -1) {
            now.events.empty();
            return 0;
        }
        switch (what) {
            case 0:
                return addEvent(what, n, 0, 0);
            case 1:
                return addEvent(what, n, 1, 4);
            case 2:
                return addEvent(what, n, 0, 99);
            case 3:
                return addEvent(what, n, 0, Setup.MOST_MARKS - 1);
            default:
                return NONE;
        }
    }

    private int addEvent(int what, int n, int least, int most) {
        return isWithin(n, least, most) ? now.events.add(what, n, 0) : BAD;
    }

    public int after(int what) {
        if (!isWithin(what, 0, 2)) {
            return NONE;
        }
        trial.copyFrom(now);
        for (int i = 0; i < now.events.size; i++) {
            trial.happen(now.events.number(i, 0), now.events.number(i, 1));
        }
        if (what == 0) {
            return trial.markedInWindow();
        }
        return what == 1 ? trial.modulus : trial.marks.size;
    }

    public int book(int row, int v) {
        if (row == -1) {
            now.book.empty();
            return 0;
        }
        if (!isRow(row)) {
            return NONE;
        }
        return isWithin(v, 0, LAST_VALUE) ? now.book.add(row, v, 0) : BAD;
    }

    public int looked() {
        for (int i = 0; i < now.book.size; i++) {
            if (now.remainder(now.book.number(i, 0), BOOK_PLACE) != now.book.number(i, 1)) {
                return i;
            }
        }
        return MISSING;
    }

    // ---- judging, the image, tapes

    public int judge(int row, int tape, int i) {
        if (!isRow(row) || !Tapes.isThere(tape)) {
            return NONE;
        }
        int sort = tapes.sortOf(tape);
        if (sort == Tapes.NO_SORT) {
            return CUT_SHORT;
        }
        if (sort != Tapes.SHORTS) {
            return CAST;
        }
        if (i < 0) {
            return CUT_SHORT;
        }
        int told = tapes.lengthOf(tape) - i;
        for (int place = 0; place <= row; place++) {
            if (place >= told) {
                return CUT_SHORT + place;
            }
            if (tapes.value(tape, i + place) != now.remainder(row, place)) {
                return place;
            }
        }
        return MISSING;
    }

    public int image() {
        kept.copyFrom(now);
        hasImage = true;
        return now.modulus;
    }

    public int undo() {
        if (!hasImage) {
            return STATE;
        }
        now.copyFrom(kept);
        return now.modulus;
    }

    public int count(int what) {
        switch (what) {
            case 0:
                return now.seen.size;
            case 1:
                return now.events.size;
            case 2:
                return now.book.size;
            case 3:
                return reader.length;
            default:
                return BAD;
        }
    }

    public int tape(int tape, int sort, int n) {
        if (!Tapes.isThere(tape)) {
            return NONE;
        }
        if (sort == Tapes.NO_SORT) {
            tapes.become(tape, sort, 0);
            return 1;
        }
        if (!isWithin(sort, 0, Tapes.BOOLEANS) || n > Tapes.LONGEST) {
            return BAD;
        }
        if (n < 0) {
            return SIZE;
        }
        tapes.become(tape, sort, n);
        return 1;
    }

    public int item(int tape, int i, long v) {
        if (!Tapes.isThere(tape)) {
            return NONE;
        }
        if (tapes.sortOf(tape) == Tapes.NO_SORT) {
            return NOTHING;
        }
        if (!isWithin(i, 0, tapes.lengthOf(tape) - 1)) {
            return PLACE;
        }
        tapes.put(tape, i, v);
        return 1;
    }

    public long peek(int tape, int i) {
        // A TAPE that holds nothing has length 0, so no place is there.
        if (!Tapes.isThere(tape) || !isWithin(i, 0, tapes.lengthOf(tape) - 1)) {
            return NO;
        }
        return tapes.value(tape, i);
    }

    public int shift(int tape, int i, int other, int j, int n) {
        if (!Tapes.isThere(tape) || !Tapes.isThere(other)) {
            return NONE;
        }
        if (tapes.sortOf(tape) == Tapes.NO_SORT || tapes.sortOf(other) == Tapes.NO_SORT) {
            return NOTHING;
        }
        if (tapes.sortOf(tape) != tapes.sortOf(other)) {
            return CAST;
        }
        if (!tapes.hasRun(tape, i, n) || !tapes.hasRun(other, j, n)) {
            return PLACE;
        }
        tapes.move(tape, i, other, j, n);
        return n;
    }

    // ---- numbers looked at before they are used

    private static boolean isWithin(int number, int least, int most) {
        return number >= least && number <= most;
    }

    private static boolean isRow(int row) {
        return isWithin(row, 0, LAST_ROW);
    }

    private static boolean isPlace(int row, int place) {
        return isRow(row) && isWithin(place, 0, row);
    }

    /** What is told of whole numbers by their DIGITS; p below 2 is no prime, and answered with 0. */
    private static final class Digits {
        /** 9999 has 14 DIGITS by 2; no number here has more by any prime. */
        private static final int MOST = 14;

        static int powerOf(int p, int e) {
            int power = 1;
            for (int i = 0; i < e; i++) {
                power *= p;
            }
            return power;
        }

        static int howMany(int p, int v) {
            if (p < 2) {
                return 0;
            }
            int many = 1;
            int rest = v / p;
            for (int i = 1; i < MOST && rest > 0; i++) {
                rest /= p;
                many++;
            }
            return many;
        }

        static int one(int p, int v, int i) {
            if (p < 2) {
                return 0;
            }
            int rest = v;
            for (int j = 0; j < i && j < MOST; j++) {
                rest /= p;
            }
            return rest % p;
        }

        static int withoutPrime(int p, int v) {
            if (p < 2) {
                return 0;
            }
            int rest = v;
            for (int i = 0; i < MOST && rest % p == 0; i++) {
                rest /= p;
            }
            return rest;
        }

        static int timesDivided(int p, int v) {
            if (p < 2) {
                return 0;
            }
            int times = 0;
            int rest = v;
            for (int i = 0; i < MOST && rest % p == 0; i++) {
                rest /= p;
                times++;
            }
            return times;
        }

        static int carries(int p, int row, int place) {
            if (p < 2) {
                return 0;
            }
            int left = place;
            int right = row - place;
            int ahead = 0;
            int carries = 0;
            for (int i = 0; i < MOST && (left > 0 || right > 0); i++) {
                ahead = left % p + right % p + ahead >= p ? 1 : 0;
                carries += ahead;
                left /= p;
                right /= p;
            }
            return carries;
        }

        static int legendre(int p, int row, int place) {
            if (p < 2) {
                return 0;
            }
            int together = 0;
            int whole = row / p;
            int left = place / p;
            int right = (row - place) / p;
            // Cut by p once more is the same as cut by the next power of p.
            for (int i = 0; i < MOST && whole > 0; i++) {
                together += whole - left - right;
                whole /= p;
                left /= p;
                right /= p;
            }
            return together;
        }

        static boolean isCovered(int p, int row, int place) {
            if (p < 2) {
                return false;
            }
            int over = row;
            int under = place;
            for (int i = 0; i < MOST && under > 0; i++) {
                if (under % p > over % p) {
                    return false;
                }
                over /= p;
                under /= p;
            }
            return true;
        }

        /** By Euclid; of two numbers below a million it takes fewer than 64 steps. */
        static int commonDivisor(int a, int b) {
            int greater = a;
            int less = b;
            for (int i = 0; i < 64 && less > 0; i++) {
                int rest = greater % less;
                greater = less;
                less = rest;
            }
            return greater;
        }
    }

    /** The numbers of THE TRIANGLE. */
    private static final class Triangle {
        /** The fourth powers of 2, 3, 5, 7 multiplied: M divides it always, so one table serves every p and e. */
        private static final long COMMON = 1944810000L;

        /** The first halves of the rows, middle place too: a row reads alike from both its ends. */
        private final int[] halves = new int[4160];

        Triangle() {
            for (int row = 0; row <= LAST_ROW; row++) {
                for (int place = 0; place <= row / 2; place++) {
                    long together = (long) cell(row - 1, place - 1) + cell(row - 1, place);
                    int index = (row + 1) * (row + 1) / 4 + place;
                    if (index >= 0 && index < halves.length) {
                        halves[index] = place == 0 ? 1 : (int) (together % COMMON);
                    }
                }
            }
        }

        /** What stands at a place, modulo COMMON; 0 beyond THE TRIANGLE. */
        private int cell(int row, int place) {
            if (row < 0 || row > LAST_ROW || place < 0 || place > row) {
                return 0;
            }
            int near = place <= row / 2 ? place : row - place;
            // Rows 0 .. row - 1 fill so many cells, cut.
            int index = (row + 1) * (row + 1) / 4 + near;
            return index >= 0 && index < halves.length ? halves[index] : 0;
        }

        int remainder(int row, int place, int modulus) {
            return modulus > 0 ? cell(row, place) % modulus : 0;
        }

        int lucas(int p, int row, int place) {
            if (p < 2) {
                return 0;
            }
            int product = 1;
            int over = row;
            int under = place;
            for (int i = 0; i < Digits.MOST && over > 0; i++) {
                product = product * cell(over % p, under % p) % p;
                over /= p;
                under /= p;
            }
            return product;
        }
    }

    /** At most so many lines, each of three numbers. */
    private static final class Lines {
        private static final int WIDTH = 3;

        private final int[] numbers;
        private int size;

        Lines(int most) {
            numbers = new int[WIDTH * Math.max(0, Math.min(most, 12))];
        }

        /** How many lines there are with this one; FULL. */
        int add(int a, int b, int c) {
            int start = WIDTH * size;
            if (start < 0 || start > numbers.length - WIDTH) {
                return FULL;
            }
            numbers[start] = a;
            numbers[start + 1] = b;
            numbers[start + 2] = c;
            size++;
            return size;
        }

        int number(int line, int column) {
            if (!isWithin(line, 0, size - 1) || !isWithin(column, 0, WIDTH - 1)) {
                return 0;
            }
            int index = WIDTH * line + column;
            return index >= 0 && index < numbers.length ? numbers[index] : 0;
        }

        /** Takes out a line, if it is there. */
        void remove(int line) {
            if (!isWithin(line, 0, size - 1)) {
                return;
            }
            int start = WIDTH * line;
            int behind = WIDTH * (size - 1 - line);
            if (start >= 0 && behind >= 0 && behind <= numbers.length - WIDTH - start) {
                System.arraycopy(numbers, start + WIDTH, numbers, start, behind);
                size--;
            }
        }

        void empty() {
            size = 0;
        }

        void copyFrom(Lines other) {
            if (other != null && other.numbers.length == numbers.length) {
                System.arraycopy(other.numbers, 0, numbers, 0, numbers.length);
                size = other.size;
            }
        }
    }

    /** All that THE IMAGE keeps, and what it tells of places. */
    private static final class Setup {
        private static final int WINDOW = 8, MOST_MARKS = 6;

        private final Triangle triangle;
        private final Lines marks = new Lines(MOST_MARKS);
        private final Lines seen = new Lines(4);
        private final Lines events = new Lines(8);
        private final Lines book = new Lines(8);
        private int p = 2;
        private int e = 1;
        private int modulus = 2;
        private int windowRow;
        private int windowPlace;

        Setup(Triangle triangle) {
            this.triangle = triangle;
        }

        void become(int newP, int newE) {
            p = newP;
            e = newE;
            modulus = Digits.powerOf(newP, newE);
        }

        void copyFrom(Setup other) {
            if (other == null) {
                return;
            }
            become(other.p, other.e);
            windowRow = other.windowRow;
            windowPlace = other.windowPlace;
            marks.copyFrom(other.marks);
            seen.copyFrom(other.seen);
            events.copyFrom(other.events);
            book.copyFrom(other.book);
        }

        void happen(int what, int n) {
            switch (what) {
                case 0:
                    become(nextPrime(), e);
                    break;
                case 1:
                    become(p, n);
                    break;
                case 2:
                    windowRow = Math.min(LAST_ROW, windowRow + n);
                    break;
                default:
                    marks.remove(n);
            }
        }

        private int nextPrime() {
            switch (p) {
                case 2:
                    return 3;
                case 3:
                    return 5;
                case 5:
                    return 7;
                default:
                    return 2;
            }
        }

        int remainder(int row, int place) {
            return triangle == null ? 0 : triangle.remainder(row, place, modulus);
        }

        int tell(int kind, int row, int place) {
            if (triangle == null) {
                return 0;
            }
            switch (kind) {
                case 0:
                    return triangle.remainder(row, place, modulus);
                case 1:
                    return triangle.lucas(p, row, place);
                case 2:
                    return Digits.carries(p, row, place);
                case 3:
                    return Digits.legendre(p, row, place);
                default:
                    return Digits.isCovered(p, row, place) ? 1 : 0;
            }
        }

        /** RULES tell of places 0 .. row alone, so a place beyond its row isn't MARKED. */
        boolean isMarked(int row, int place) {
            if (!isPlace(row, place)) {
                return false;
            }
            for (int i = 0; i < marks.size; i++) {
                if (tell(marks.number(i, 0), row, place) == marks.number(i, 1)) {
                    return true;
                }
            }
            return false;
        }

        int pictureRow(int i) {
            int bits = 0;
            for (int c = 0; c < WINDOW; c++) {
                if (isMarked(windowRow + i, windowPlace + c)) {
                    bits |= 1 << c;
                }
            }
            return bits;
        }

        int markedInWindow() {
            int places = 0;
            for (int i = 0; i < WINDOW; i++) {
                places += Integer.bitCount(pictureRow(i));
            }
            return places;
        }
    }

    /** THE TEXT, and the CLAUSES that it tells. */
    private static final class Reader {
        private static final int MOST_SIGNS = 100, MOST_CLAUSES = 12, MOST_DIGITS = 3, END = -1;

        private final int[] text = new int[MOST_SIGNS];
        private final Lines clauses = new Lines(MOST_CLAUSES);
        private int length;
        private int next;

        int add(int sign) {
            if (length < 0 || length >= text.length) {
                return FULL;
            }
            text[length] = sign;
            length++;
            return length;
        }

        void emptyText() {
            length = 0;
        }

        /** The FAULT; NONE, if there is none: the CLAUSES (letter, number, number) stand in clauses then. */
        int faultOfText() {
            clauses.empty();
            next = 0;
            for (int i = 0; i < MOST_CLAUSES; i++) {
                if (!takeClause()) {
                    return next;
                }
                if (next >= length) {
                    return NONE;
                }
                if (i == MOST_CLAUSES - 1 || !take(';')) {
                    return next;
                }
            }
            return next;
        }

        private boolean takeClause() {
            int letter = sign();
            if (letter != 'p' && letter != 'e' && letter != 'm' && letter != 'x' && letter != 'w') {
                return false;
            }
            next++;
            int first = 0;
            if (letter != 'x') {
                first = takeNumber(letter == 'w' ? MOST_DIGITS : 1);
            }
            if (first == NONE || letter == 'w' && !take(',')) {
                return false;
            }
            int second = letter == 'm' || letter == 'w' ? takeNumber(MOST_DIGITS) : 0;
            return second != NONE && clauses.add(letter, first, second) > 0;
        }

        /** A number of 1 to so many digits; NONE, if no digit is there. */
        private int takeNumber(int most) {
            int number = NONE;
            for (int i = 0; i < most; i++) {
                int digit = sign() - '0';
                if (!isWithin(digit, 0, 9)) {
                    return number;
                }
                number = 10 * Math.max(number, 0) + digit;
                next++;
            }
            return number;
        }

        private boolean take(int sign) {
            boolean isIt = sign() == sign;
            next += isIt ? 1 : 0;
            return isIt;
        }

        private int sign() {
            return next >= 0 && next < length && next < text.length ? text[next] : END;
        }
    }

    /** TAPES 0 .. 5. */
    private static final class Tapes {
        private static final int MANY = 6, LONGEST = 60;
        private static final int NO_SORT = -1, BYTES = 0, SHORTS = 1, INTS = 2, BOOLEANS = 4;

        private final int[] sorts = {NO_SORT, NO_SORT, NO_SORT, NO_SORT, NO_SORT, NO_SORT};
        private final int[] lengths = new int[MANY];
        private final long[] items = new long[MANY * LONGEST];

        static boolean isThere(int tape) {
            return isWithin(tape, 0, MANY - 1);
        }

        int sortOf(int tape) {
            return tape >= 0 && tape < sorts.length ? sorts[tape] : NO_SORT;
        }

        int lengthOf(int tape) {
            return tape >= 0 && tape < lengths.length ? lengths[tape] : 0;
        }

        void become(int tape, int sort, int length) {
            if (tape < 0 || tape >= sorts.length || tape >= lengths.length) {
                return;
            }
            sorts[tape] = sort;
            lengths[tape] = Math.max(0, Math.min(length, LONGEST));
            for (int i = 0; i < lengths[tape]; i++) {
                put(tape, i, 0);
            }
        }

        /** Whether n items from i on are all within a TAPE. */
        boolean hasRun(int tape, int i, int n) {
            return n >= 0 && i >= 0 && i <= lengthOf(tape) - n;
        }

        long value(int tape, int i) {
            int index = LONGEST * tape + i;
            return hasRun(tape, i, 1) && index >= 0 && index < items.length ? items[index] : 0;
        }

        void put(int tape, int i, long v) {
            int index = LONGEST * tape + i;
            if (hasRun(tape, i, 1) && index >= 0 && index < items.length) {
                items[index] = cutToSort(sortOf(tape), v);
            }
        }

        private static long cutToSort(int sort, long v) {
            switch (sort) {
                case BYTES:
                    return (byte) v;
                case SHORTS:
                    return (short) v;
                case INTS:
                    return (int) v;
                case BOOLEANS:
                    return v != 0 ? 1 : 0;
                default:
                    return v;
            }
        }

        void move(int tape, int i, int other, int j, int n) {
            if (!hasRun(tape, i, n) || !hasRun(other, j, n)) {
                return;
            }
            int from = LONGEST * tape + i;
            int to = LONGEST * other + j;
            if (from >= 0 && from <= items.length - n && to >= 0 && to <= items.length - n) {
                System.arraycopy(items, from, items, to, n);
            }
        }
    }
}
