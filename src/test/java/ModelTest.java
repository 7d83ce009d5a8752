import java.math.BigInteger;
import java.util.ArrayList;
import java.util.List;
import java.util.TreeSet;

/** Long runs of calls, made by a fixed sequence of numbers, beside a model that goes by the document with whole numbers. */
public final class ModelTest {
    private static final BigInteger[][] TRIANGLE = new BigInteger[128][];
    private static final int[] PRIMES = {2, 3, 5, 7};
    private static final int[] EDGES = {Integer.MIN_VALUE, Integer.MIN_VALUE + 1, -2, -1, 0, 1, 2, 3, 4, 5, 6, 7, 8, 9, 10,
        31, 32, 33, 59, 60, 61, 99, 100, 126, 127, 128, 129, 2400, 2401, 9999, 10000, Integer.MAX_VALUE - 1, Integer.MAX_VALUE};

    /** What an object answers behind so many calls is free; oneCall() makes no more than so many. */
    private static final int MOST_CALLS = 512, MOST_AT_ONCE = 130;

    private static int calls = 0;
    private static long sequence = 20261119;
    private static int wrong = 0;

    public static void main(String[] args) {
        for (int i = 0; i < 128; i++) {
            TRIANGLE[i] = new BigInteger[i + 1];
            for (int k = 0; k <= i; k++) {
                TRIANGLE[i][k] = k == 0 || k == i ? BigInteger.ONE : TRIANGLE[i - 1][k - 1].add(TRIANGLE[i - 1][k]);
            }
        }
        everyPlace();
        for (int run = 0; run < 2400 && wrong < 20; run++) {
            oneRun(run);
        }
        System.out.println(wrong == 0 ? "model and class agree" : wrong + " answers are not the model's");
        if (wrong != 0) {
            System.exit(1);
        }
    }

    /** All rules, counts and digits by all p and e, once through. */
    private static void everyPlace() {
        for (int p : PRIMES) {
            for (int e = 1; e <= 4; e++) {
                for (int i = 0; i < 128; i++) {
                    everyPlaceOf(p, e, i);
                }
            }
            // So few numbers that one object is asked no more than 512 times.
            for (int v = -1; v <= 10000; v += 20) {
                everyDigitOf(p, v, Math.min(v + 19, 10000));
            }
        }
    }

    private static PascalRows classBy(int p, int e) {
        PascalRows x = new PascalRows();
        x.prime(p);
        x.power(e);
        return x;
    }

    private static Model modelBy(int p, int e) {
        Model m = new Model();
        m.prime(p);
        m.power(e);
        return m;
    }

    private static void everyPlaceOf(int p, int e, int i) {
        Model m = modelBy(p, e);
        PascalRows x = classBy(p, e);
        for (int k = 0; k <= i; k++) {
            due("at " + i + " " + k, x.at(i, k), m.remainder(i, k));
        }
        for (int kind = 0; kind < 5; kind++) {
            x = classBy(p, e);
            for (int k = 0; k <= i; k++) {
                due("rule " + kind + " " + i + " " + k, x.rule(kind, i, k), m.tell(kind, i, k));
            }
        }
        x = classBy(p, e);
        for (int what = 0; what < 4; what++) {
            due("row " + i + " " + what, x.row(i, what), m.row(i, what));
            due("upTo " + i + " " + what, x.upTo(i, what), m.upTo(i, what));
        }
        for (int v = -1; v < 66; v++) {
            due("kind " + i + " " + v, x.kind(i, v), m.kind(i, v));
        }
    }

    private static void everyDigitOf(int p, int first, int last) {
        Model m = modelBy(p, 1);
        PascalRows x = classBy(p, 1);
        for (int v = first; v <= last; v++) {
            for (int i = -2; i < 16; i++) {
                due("digit " + v + " " + i, x.digit(v, i), m.digit(v, i));
            }
            due("pure " + v, x.pure(v, 0), m.pure(v, 0));
            due("pure " + v, x.pure(v, 1), m.pure(v, 1));
        }
    }

    private static int below(int n) {
        sequence = sequence * 6364136223846793005L + 1442695040888963407L;
        return (int) ((sequence >>> 33) % n);
    }

    /** Mostly 0 .. most, now and then an edge. */
    private static int some(int most) {
        return below(12) == 0 ? EDGES[below(EDGES.length)] : below(most + 1);
    }

    private static long someLong() {
        long v = (long) some(300) << below(33);
        return below(2) == 0 ? v : -v;
    }

    private static String someText() {
        StringBuilder text = new StringBuilder();
        int clauses = 1 + below(below(4) == 0 ? 14 : 5);
        for (int i = 0; i < clauses; i++) {
            text.append(i == 0 ? "" : ";");
            switch (below(6)) {
                case 0: text.append('p').append(below(10)); break;
                case 1: text.append('e').append(below(6)); break;
                case 2: case 3: text.append('m').append(below(6)).append(below(below(2) == 0 ? 4 : 1000)); break;
                case 4: text.append('x'); break;
                default: text.append('w').append(below(140)).append(",").append(below(140));
            }
        }
        if (below(4) == 0 && text.length() > 0) {
            text.setCharAt(below(text.length()), "pemwx;,0123 Z".charAt(below(13)));
        }
        if (below(6) == 0) {
            text.setLength(below(text.length() + 1));
        }
        return text.toString();
    }

    /** Each call of the object is looked at by due(): so it is told how many there were. */
    private static void oneRun(int run) {
        PascalRows x = new PascalRows();
        Model m = new Model();
        int ahead = calls;
        while (calls - ahead <= MOST_CALLS - MOST_AT_ONCE && wrong < 20) {
            oneCall(x, m, "run " + run + ", call " + (calls - ahead) + ": ");
        }
    }

    private static void due(String call, long got, long want) {
        calls++;
        if (got != want) {
            wrong++;
            System.out.println(call + " answered " + got + ", the model " + want);
        }
    }

    private static void oneCall(PascalRows x, Model m, String name) {
        int row = some(127);
        int place = some(below(2) == 0 ? 12 : 127);
        int v = some(below(2) == 0 ? 8 : 2400);
        int kind = some(4);
        int tape = below(8) == 0 ? some(5) : below(3);
        int i = some(below(2) == 0 ? 4 : 12);
        int j = some(4);
        int n = some(below(2) == 0 ? 5 : 60);
        int s = some(32);
        switch (below(47)) {
            case 0: due(name + "prime", x.prime(v), m.prime(v)); break;
            case 1: due(name + "power", x.power(j), m.power(j)); break;
            case 2: case 3: due(name + "mark", x.mark(kind, v), m.mark(kind, v)); break;
            case 4: if (below(4) == 0) { due(name + "clear", x.clear(), m.clear()); } break;
            case 5: due(name + "window", x.window(row, place), m.window(row, place)); break;
            case 6: due(name + "feed", x.feed(row), m.feed(row)); break;
            case 7: case 8: case 9: {
                if (below(4) != 0) {
                    due(name + "read", x.read(), m.read());
                }
                String text = someText();
                for (int k = 0; k < text.length(); k++) {
                    due(name + "feed of " + text, x.feed(text.charAt(k)), m.feed(text.charAt(k)));
                }
                due(name + "read of " + text, x.read(), m.read());
                break;
            }
            case 10: due(name + "told " + j, x.told(j), m.told(j)); due(name + "told 6", x.told(6), m.told(6)); break;
            case 11: markOf(x, m, name); break;
            case 12: due(name + "at", x.at(row, place), m.at(row, place)); break;
            case 13: due(name + "rule", x.rule(kind, row, place), m.rule(kind, row, place)); break;
            case 14: due(name + "marked", x.marked(row, place), m.marked(row, place)); break;
            case 15: v = some(10000); due(name + "digit", x.digit(v, i), m.digit(v, i)); break;
            case 16: pure(x, m, some(10000), name); break;
            case 17: due(name + "counted", x.counted(row, v), m.counted(row, v)); break;
            case 18: case 19: due(name + "row " + j, x.row(row, j), m.row(row, j)); break;
            case 20: due(name + "kind", x.kind(row, i), m.kind(row, i)); break;
            case 21: due(name + "upTo", x.upTo(row, j), m.upTo(row, j)); break;
            case 22: due(name + "picture", x.picture(i), m.picture(i)); break;
            case 23: case 24: {
                int c = some(below(2) == 0 ? 27 : 127);
                int d = some(below(2) == 0 ? 27 : 127);
                due(name + "like", x.like(row, place, c, d, s), m.like(row, place, c, d, s));
                due(name + "like", x.like(row, place, c, d, i), m.like(row, place, c, d, i));
                break;
            }
            case 25: due(name + "scaled", x.scaled(s, i), m.scaled(s, i)); break;
            case 26: case 27: {
                if (below(3) == 0) {
                    due(name + "no seen", x.see(-1, place, v), m.see(-1, place, v));
                }
                int known = below(2) == 0 ? v : Math.max(0, m.at(row, place));
                due(name + "see", x.see(row, place, known), m.see(row, place, known));
                break;
            }
            case 28: due(name + "fits", x.fits(), m.fits()); break;
            case 29: for (int part = -1; part < 3; part++) { due(name + "odds", x.odds(row, kind, v, part), m.odds(row, kind, v, part)); } break;
            case 30: for (int part = -1; part < 3; part++) { due(name + "mean", x.mean(row, part), m.mean(row, part)); } break;
            case 31: case 32: case 33: {
                if (below(12) == 0) {
                    due(name + "no events", x.event(-1, n), m.event(-1, n));
                }
                int what = some(3);
                int number = what == 0 ? some(0) : i;
                due(name + "event", x.event(what, number), m.event(what, number));
                break;
            }
            case 34: for (int what = -1; what < 4; what++) { due(name + "after " + what, x.after(what), m.after(what)); } break;
            case 35: case 36: {
                if (below(6) == 0) {
                    due(name + "no book", x.book(-1, v), m.book(-1, v));
                }
                int known = below(3) == 0 ? v : Math.max(0, m.at(row, 10));
                due(name + "book", x.book(row, known), m.book(row, known));
                break;
            }
            case 37: due(name + "looked", x.looked(), m.looked()); break;
            case 38: case 39: {
                if (below(2) == 0 && m.tape(tape, 1, n) == 1) {
                    due(name + "tape of shorts", x.tape(tape, 1, n), 1);
                    for (int k = 0; k < n; k++) {
                        long known = below(40) == 0 ? someLong() : m.at(Math.max(0, Math.min(i, 127)), k);
                        due(name + "item of shorts", x.item(tape, k, known), m.item(tape, k, known));
                    }
                    due(name + "judge", x.judge(i, tape, 0), m.judge(i, tape, 0));
                }
                due(name + "judge", x.judge(row, tape, j), m.judge(row, tape, j));
                due(name + "judge", x.judge(j, tape, i), m.judge(j, tape, i));
                break;
            }
            case 40: if (below(4) == 0) { due(name + "image", x.image(), m.image()); } break;
            case 41: due(name + "undo", x.undo(), m.undo()); break;
            case 42: due(name + "count", x.count(j), m.count(j)); break;
            case 43: if (below(3) == 0) { due(name + "tape", x.tape(tape, kind, n), m.tape(tape, kind, n)); } break;
            case 44: { long item = someLong(); due(name + "item", x.item(tape, i, item), m.item(tape, i, item)); break; }
            case 45: due(name + "peek", x.peek(tape, i), m.peek(tape, i)); break;
            default: {
                int other = below(8) == 0 ? some(5) : below(3);
                due(name + "shift", x.shift(tape, i, other, j, n), m.shift(tape, i, other, j, n));
            }
        }
    }

    private static void markOf(PascalRows x, Model m, String name) {
        for (int mark = -1; mark < 7; mark++) {
            for (int what = -1; what < 3; what++) {
                due(name + "markOf", x.markOf(mark, what), m.markOf(mark, what));
            }
        }
    }

    private static void pure(PascalRows x, Model m, int v, String name) {
        for (int what = -1; what < 3; what++) {
            due(name + "pure", x.pure(v, what), m.pure(v, what));
        }
    }

    /** The state that an image keeps, and what the document says of it. */
    private static final class State {
        int p = 2, e = 1, row, place;
        List<int[]> marks = new ArrayList<>(), seen = new ArrayList<>(), events = new ArrayList<>(), book = new ArrayList<>();

        State copy() {
            State s = new State();
            s.p = p;
            s.e = e;
            s.row = row;
            s.place = place;
            s.marks.addAll(marks);
            s.seen.addAll(seen);
            s.events.addAll(events);
            s.book.addAll(book);
            return s;
        }

        int modulus() {
            return BigInteger.valueOf(p).pow(e).intValueExact();
        }

        int remainder(int row, int place) {
            if (row < 0 || row > 127 || place < 0 || place > row) {
                return 0;
            }
            return TRIANGLE[row][place].mod(BigInteger.valueOf(modulus())).intValueExact();
        }

        int tell(int kind, int row, int place) {
            List<Integer> over = digits(row);
            List<Integer> under = digits(place);
            List<Integer> rest = digits(row - place);
            if (kind == 0) {
                return remainder(row, place);
            }
            if (kind == 1) {
                BigInteger product = BigInteger.ONE;
                for (int i = 0; i < over.size(); i++) {
                    int k = i < under.size() ? under.get(i) : 0;
                    product = product.multiply(k > over.get(i) ? BigInteger.ZERO : TRIANGLE[over.get(i)][k]);
                }
                return product.mod(BigInteger.valueOf(p)).intValueExact();
            }
            if (kind == 2) {
                int ahead = 0;
                int carries = 0;
                for (int i = 0; i < over.size(); i++) {
                    int sum = ahead + (i < under.size() ? under.get(i) : 0) + (i < rest.size() ? rest.get(i) : 0);
                    ahead = sum >= p ? 1 : 0;
                    carries += ahead;
                }
                return carries;
            }
            if (kind == 3) {
                int sum = 0;
                for (long t = p; t <= row; t *= p) {
                    sum += (int) (row / t - place / t - (row - place) / t);
                }
                return sum;
            }
            for (int i = 0; i < under.size(); i++) {
                if (under.get(i) > over.get(i)) {
                    return 0;
                }
            }
            return 1;
        }

        List<Integer> digits(int v) {
            List<Integer> digits = new ArrayList<>();
            String text = Integer.toString(v, p);
            for (int i = text.length() - 1; i >= 0; i--) {
                digits.add(text.charAt(i) - '0');
            }
            return digits;
        }

        boolean isMarked(int row, int place) {
            if (row > 127 || place > row) {
                return false;
            }
            return marks.stream().anyMatch(mark -> tell(mark[0], row, place) == mark[1]);
        }

        int picture(int i) {
            int bits = 0;
            for (int c = 0; c < 8; c++) {
                bits += isMarked(row + i, place + c) ? 1 << c : 0;
            }
            return bits;
        }

        int inWindow() {
            int places = 0;
            for (int i = 0; i < 8; i++) {
                places += Integer.bitCount(picture(i));
            }
            return places;
        }
    }

    private static final class Model {
        State now = new State();
        State image;
        String text = "";
        long[][] tapes = new long[6][];
        int[] sorts = {-1, -1, -1, -1, -1, -1};

        static boolean in(int v, int least, int most) {
            return least <= v && v <= most;
        }

        int remainder(int row, int place) {
            return now.remainder(row, place);
        }

        int tell(int kind, int row, int place) {
            return now.tell(kind, row, place);
        }

        int prime(int p) {
            int was = now.p;
            if (p != 2 && p != 3 && p != 5 && p != 7) {
                return -2;
            }
            now.p = p;
            return was;
        }

        int power(int e) {
            int was = now.e;
            if (!in(e, 1, 4)) {
                return -2;
            }
            now.e = e;
            return was;
        }

        static int come(List<int[]> list, int most, int... what) {
            if (list.size() == most) {
                return -4;
            }
            list.add(what);
            return list.size();
        }

        int mark(int kind, int v) {
            return !in(kind, 0, 4) ? -1 : !in(v, 0, 2400) ? -2 : come(now.marks, 6, kind, v);
        }

        int clear() {
            int were = now.marks.size();
            now.marks.clear();
            return were;
        }

        int window(int row, int place) {
            if (!in(row, 0, 127) || !in(place, 0, 127)) {
                return -2;
            }
            int was = now.row * 1000 + now.place;
            now.row = row;
            now.place = place;
            return was;
        }

        int feed(int sign) {
            if (!in(sign, 0, 127)) {
                return -2;
            }
            if (text.length() == 100) {
                return -4;
            }
            text += (char) sign;
            return text.length();
        }

        static final String CLAUSE = "(p[0-9]|e[0-9]|m[0-9][0-9]{1,3}|x|w[0-9]{1,3},[0-9]{1,3})";
        static final String SET_UP = CLAUSE + "(;" + CLAUSE + "){0,11}";

        /** The fault is behind the longest beginning that could still become a set-up. */
        int read() {
            String whole = text;
            text = "";
            if (!whole.matches(SET_UP)) {
                int good = 0;
                while (good < whole.length() && canBecome(whole.substring(0, good + 1))) {
                    good++;
                }
                return -10 - good;
            }
            int done = 0;
            for (String clause : whole.split(";")) {
                done += carryOut(clause) >= 0 ? 1 : 0;
            }
            return done;
        }

        static boolean canBecome(String beginning) {
            for (String rest : new String[] {"", "0", "00", "0,0", ",0", "x"}) {
                if ((beginning + rest).matches(SET_UP)) {
                    return true;
                }
            }
            return false;
        }

        int carryOut(String clause) {
            String rest = clause.substring(1);
            switch (clause.charAt(0)) {
                case 'p': return prime(Integer.parseInt(rest));
                case 'e': return power(Integer.parseInt(rest));
                case 'm': return mark(Integer.parseInt(rest.substring(0, 1)), Integer.parseInt(rest.substring(1)));
                case 'x': return clear();
                default: return window(Integer.parseInt(rest.split(",")[0]), Integer.parseInt(rest.split(",")[1]));
            }
        }

        int told(int what) {
            return what == 0 ? now.p : what == 1 ? now.e : what == 2 ? now.modulus() : what == 3 ? now.marks.size()
                : what == 4 ? now.row : what == 5 ? now.place : what == 6 ? now.inWindow() : -1;
        }

        int markOf(int mark, int what) {
            return !in(mark, 0, now.marks.size() - 1) || !in(what, 0, 1) ? -1 : now.marks.get(mark)[what];
        }

        int at(int row, int place) {
            return in(row, 0, 127) ? remainder(row, place) : -1;
        }

        int rule(int kind, int row, int place) {
            return !in(kind, 0, 4) || !in(row, 0, 127) || !in(place, 0, row) ? -1 : tell(kind, row, place);
        }

        int marked(int row, int place) {
            return !in(row, 0, 127) || !in(place, 0, row) ? -1 : now.isMarked(row, place) ? 1 : 0;
        }

        int digit(int v, int i) {
            if (!in(v, 0, 9999)) {
                return -2;
            }
            if (i < -1) {
                return -1;
            }
            List<Integer> digits = now.digits(v);
            return i == -1 ? digits.size() : i < digits.size() ? digits.get(i) : -5;
        }

        int pure(int v, int what) {
            if (!in(v, 1, 9999)) {
                return -2;
            }
            if (!in(what, 0, 1)) {
                return -1;
            }
            int times = 0;
            int rest = v;
            while (rest % now.p == 0) {
                rest /= now.p;
                times++;
            }
            return what == 0 ? rest : times;
        }

        int counted(int row, int v) {
            if (!in(row, 0, 127)) {
                return -1;
            }
            int n = 0;
            for (int k = 0; k <= row; k++) {
                n += remainder(row, k) == v ? 1 : 0;
            }
            return n;
        }

        TreeSet<Integer> kinds(int row) {
            TreeSet<Integer> kinds = new TreeSet<>();
            for (int k = 0; k <= row; k++) {
                kinds.add(remainder(row, k));
            }
            return kinds;
        }

        int row(int row, int what) {
            if (!in(row, 0, 127) || !in(what, 0, 3)) {
                return -1;
            }
            int sum = 0;
            int depth = 0;
            for (int k = 0; k <= row; k++) {
                sum += remainder(row, k);
                depth = Math.max(depth, tell(2, row, k));
            }
            if (what >= 2) {
                return what == 2 ? sum : depth;
            }
            TreeSet<Integer> kinds = kinds(row);
            int usual = kinds.first();
            for (int v : kinds) {
                usual = counted(row, v) > counted(row, usual) ? v : usual;
            }
            return what == 0 ? kinds.size() : usual;
        }

        int kind(int row, int i) {
            if (!in(row, 0, 127) || i < 0) {
                return -1;
            }
            List<Integer> kinds = new ArrayList<>(kinds(row));
            return i < kinds.size() ? kinds.get(i) : -5;
        }

        int upTo(int row, int what) {
            if (!in(row, 0, 127) || !in(what, 0, 2)) {
                return -1;
            }
            int full = 0;
            int last = -5;
            int heaviest = 0;
            int most = -1;
            for (int i = 0; i <= row; i++) {
                int noughts = 0;
                for (int k = 0; k <= i; k++) {
                    noughts += remainder(i, k) == 0 ? 1 : 0;
                }
                if (noughts == 0) {
                    full++;
                    last = i;
                }
                if (noughts > most) {
                    most = noughts;
                    heaviest = i;
                }
            }
            return what == 0 ? full : what == 1 ? last : heaviest;
        }

        int picture(int i) {
            return in(i, 0, 7) ? now.picture(i) : -1;
        }

        int like(int a, int b, int c, int d, int s) {
            for (int begin : new int[] {a, b, c, d}) {
                if (!in(begin, 0, 127)) {
                    return -1;
                }
            }
            return !in(s, 1, 32) ? -2 : alike(a, b, c, d, s);
        }

        int scaled(int s, int t) {
            return !in(s, 1, 32) || !in(t, 1, 9) ? -2 : alike(0, 0, s * t, 0, s);
        }

        int alike(int a, int b, int c, int d, int s) {
            int alike = 1;
            for (int i = 0; i < s * s; i++) {
                alike = remainder(a + i / s, b + i % s) != remainder(c + i / s, d + i % s) ? 0 : alike;
            }
            return alike;
        }

        int see(int row, int place, int v) {
            if (row == -1) {
                now.seen.clear();
                return 0;
            }
            return !in(row, 0, 127) || !in(place, 0, row) ? -1 : !in(v, 0, 2400) ? -2 : come(now.seen, 4, row, place, v);
        }

        int fits() {
            int bits = 0;
            for (int i = 0; i < 4; i++) {
                State other = now.copy();
                other.p = PRIMES[i];
                bits += other.seen.stream().allMatch(s -> other.remainder(s[0], s[1]) == s[2]) ? 1 << i : 0;
            }
            return bits;
        }

        static long part(long above, long below, int part) {
            long divisor = BigInteger.valueOf(above).gcd(BigInteger.valueOf(below)).longValueExact();
            return (part == 0 ? above : below) / divisor;
        }

        long odds(int row, int kind, int v, int part) {
            if (!in(row, 0, 127) || !in(kind, 0, 4) || !in(part, 0, 1)) {
                return Long.MIN_VALUE;
            }
            int n = 0;
            for (int k = 0; k <= row; k++) {
                n += tell(kind, row, k) == v ? 1 : 0;
            }
            return part(n, row + 1, part);
        }

        long mean(int row, int part) {
            return !in(row, 0, 127) || !in(part, 0, 1) ? Long.MIN_VALUE : part(row(row, 2), row + 1, part);
        }

        int event(int what, int n) {
            if (what == -1) {
                now.events.clear();
                return 0;
            }
            int[] least = {0, 1, 0, 0};
            int[] most = {0, 4, 99, 5};
            return !in(what, 0, 3) ? -1 : !in(n, least[what], most[what]) ? -2 : come(now.events, 8, what, n);
        }

        int after(int what) {
            if (!in(what, 0, 2)) {
                return -1;
            }
            State then = now.copy();
            for (int[] event : now.events) {
                int n = event[1];
                switch (event[0]) {
                    case 0: then.p = then.p == 2 ? 3 : then.p == 3 ? 5 : then.p == 5 ? 7 : 2; break;
                    case 1: then.e = n; break;
                    case 2: then.row = Math.min(127, then.row + n); break;
                    default: if (n < then.marks.size()) { then.marks.remove(n); }
                }
            }
            return what == 0 ? then.inWindow() : what == 1 ? then.modulus() : then.marks.size();
        }

        int book(int row, int v) {
            if (row == -1) {
                now.book.clear();
                return 0;
            }
            return !in(row, 0, 127) ? -1 : !in(v, 0, 2400) ? -2 : come(now.book, 8, row, v);
        }

        int looked() {
            for (int i = 0; i < now.book.size(); i++) {
                if (remainder(now.book.get(i)[0], 10) != now.book.get(i)[1]) {
                    return i;
                }
            }
            return -5;
        }

        int judge(int row, int tape, int i) {
            if (!in(row, 0, 127) || !in(tape, 0, 5)) {
                return -1;
            }
            if (tapes[tape] == null) {
                return 200;
            }
            if (sorts[tape] != 1) {
                return -12;
            }
            if (i < 0) {
                return 200;
            }
            for (int k = 0; k <= row; k++) {
                if ((long) i + k >= tapes[tape].length) {
                    return 200 + k;
                }
                if (tapes[tape][i + k] != remainder(row, k)) {
                    return k;
                }
            }
            return -5;
        }

        int image() {
            image = now.copy();
            return now.modulus();
        }

        int undo() {
            if (image == null) {
                return -3;
            }
            now = image.copy();
            return now.modulus();
        }

        int count(int what) {
            return what == 0 ? now.seen.size() : what == 1 ? now.events.size() : what == 2 ? now.book.size() : what == 3 ? text.length() : -2;
        }

        int tape(int tape, int sort, int n) {
            if (!in(tape, 0, 5)) {
                return -1;
            }
            if (sort != -1 && (!in(sort, 0, 4) || n > 60)) {
                return -2;
            }
            if (sort != -1 && n < 0) {
                return -14;
            }
            sorts[tape] = sort;
            tapes[tape] = sort == -1 ? null : new long[n];
            return 1;
        }

        int item(int tape, int i, long v) {
            if (!in(tape, 0, 5)) {
                return -1;
            }
            if (tapes[tape] == null) {
                return -11;
            }
            if (!in(i, 0, tapes[tape].length - 1)) {
                return -13;
            }
            int sort = sorts[tape];
            tapes[tape][i] = sort == 0 ? (byte) v : sort == 1 ? (short) v : sort == 2 ? (int) v : sort == 3 ? v : v != 0 ? 1 : 0;
            return 1;
        }

        long peek(int tape, int i) {
            return !in(tape, 0, 5) || tapes[tape] == null || !in(i, 0, tapes[tape].length - 1) ? Long.MIN_VALUE : tapes[tape][i];
        }

        int shift(int tape, int i, int other, int j, int n) {
            if (!in(tape, 0, 5) || !in(other, 0, 5)) {
                return -1;
            }
            if (tapes[tape] == null || tapes[other] == null) {
                return -11;
            }
            if (sorts[tape] != sorts[other]) {
                return -12;
            }
            if (n < 0 || i < 0 || j < 0 || (long) i + n > tapes[tape].length || (long) j + n > tapes[other].length) {
                return -13;
            }
            long[] were = tapes[tape].clone();
            for (int k = 0; k < n; k++) {
                tapes[other][j + k] = were[i + k];
            }
            return n;
        }
    }
}
