/** Each promise by ordinary inputs, the edges that the document names, and wrong inputs. */
public final class PromisesTest {
    private static final int NONE = -1, BAD = -2, STATE = -3, FULL = -4, MISSING = -5;
    private static final int NOTHING = -11, CAST = -12, PLACE = -13, SIZE = -14;
    private static final long NO = Long.MIN_VALUE;
    private static final int LEAST = Integer.MIN_VALUE, MOST = Integer.MAX_VALUE;

    private static int wrong = 0;
    private static int promise = 0;

    private static void due(String call, long got, long want) {
        if (got != want) {
            wrong++;
            System.out.println("promise " + promise + ": " + call + " answered " + got + ", due is " + want);
        }
    }

    private static PascalRows by(int p, int e) {
        PascalRows x = new PascalRows();
        x.prime(p);
        x.power(e);
        return x;
    }

    private static void feedAll(PascalRows x, String text) {
        for (int i = 0; i < text.length(); i++) {
            x.feed(text.charAt(i));
        }
    }

    private static int readAll(PascalRows x, String text) {
        feedAll(x, text);
        return x.read();
    }

    private static void fill(PascalRows x, int tape, long... items) {
        for (int i = 0; i < items.length; i++) {
            x.item(tape, i, items[i]);
        }
    }

    public static void main(String[] args) {
        constants();
        newObject();
        prime();
        power();
        mark();
        clear();
        window();
        feed();
        read();
        readFaults();
        told();
        markOf();
        at();
        rule();
        marked();
        digit();
        pure();
        counted();
        row();
        kind();
        upTo();
        picture();
        like();
        scaled();
        see();
        fits();
        odds();
        mean();
        event();
        after();
        book();
        looked();
        judge();
        image();
        undo();
        count();
        tape();
        item();
        peek();
        shift();
        System.out.println(wrong == 0 ? "all promises hold" : wrong + " answers are not as due");
        if (wrong != 0) {
            System.exit(1);
        }
    }

    private static void constants() {
        due("NONE", PascalRows.NONE, NONE);
        due("BAD", PascalRows.BAD, BAD);
        due("STATE", PascalRows.STATE, STATE);
        due("FULL", PascalRows.FULL, FULL);
        due("NO", PascalRows.NO, NO);
    }

    private static void newObject() {
        promise = 1;
        PascalRows x = new PascalRows();
        due("p", x.told(0), 2);
        due("e", x.told(1), 1);
        due("M", x.told(2), 2);
        due("marks", x.told(3), 0);
        due("window's row", x.told(4), 0);
        due("window's place", x.told(5), 0);
        for (int what = 0; what < 4; what++) {
            due("count " + what, x.count(what), 0);
        }
        for (int tape = 0; tape < 6; tape++) {
            due("nothing on tape " + tape, x.item(tape, 0, 1), NOTHING);
        }
        due("no image", x.undo(), STATE);
    }

    private static void prime() {
        promise = 2;
        PascalRows x = new PascalRows();
        int[] wrongOnes = {LEAST, -2, -1, 0, 1, 4, 6, 8, 9, 11, 13, MOST};
        for (int p : wrongOnes) {
            due("prime(" + p + ")", x.prime(p), BAD);
        }
        due("p stays", x.told(0), 2);
        due("prime(3)", x.prime(3), 2);
        due("prime(5)", x.prime(5), 3);
        due("prime(7)", x.prime(7), 5);
        due("prime(4)", x.prime(4), BAD);
        due("p 7", x.told(0), 7);
        due("prime(7) again", x.prime(7), 7);
        due("prime(2)", x.prime(2), 7);
        x.power(3);
        x.prime(3);
        due("e stays", x.told(1), 3);
        due("M 27", x.told(2), 27);
    }

    private static void power() {
        promise = 3;
        PascalRows x = new PascalRows();
        int[] wrongOnes = {LEAST, -1, 0, 5, 6, MOST};
        for (int e : wrongOnes) {
            due("power(" + e + ")", x.power(e), BAD);
        }
        due("e stays", x.told(1), 1);
        for (int e = 1; e < 4; e++) {
            due("power(" + (e + 1) + ")", x.power(e + 1), e);
            due("M", x.told(2), 1 << (e + 1));
        }
        due("power(1)", x.power(1), 4);
        due("p stays", x.told(0), 2);
    }

    private static void mark() {
        promise = 4;
        PascalRows x = new PascalRows();
        due("mark(-1, -1)", x.mark(-1, -1), NONE);
        due("mark(5, 0)", x.mark(5, 0), NONE);
        due("mark(5, 2401)", x.mark(5, 2401), NONE);
        due("mark(MOST, 0)", x.mark(MOST, 0), NONE);
        due("mark(0, -1)", x.mark(0, -1), BAD);
        due("mark(4, 2401)", x.mark(4, 2401), BAD);
        due("none came", x.told(3), 0);
        for (int kind = 0; kind < 5; kind++) {
            due("mark", x.mark(kind, 600 * kind), kind + 1);
        }
        due("the same once more", x.mark(4, 2400), 6);
        due("a seventh", x.mark(0, 0), FULL);
        due("a seventh, wrong v", x.mark(0, 2401), BAD);
        due("a seventh, wrong kind", x.mark(5, 2401), NONE);
        due("six", x.told(3), 6);
        due("kind of the last", x.markOf(5, 0), 4);
        due("v of the last", x.markOf(5, 1), 2400);
    }

    private static void clear() {
        promise = 5;
        PascalRows x = new PascalRows();
        due("clear() of none", x.clear(), 0);
        x.mark(0, 1);
        x.mark(0, 0);
        due("clear() of two", x.clear(), 2);
        due("none", x.told(3), 0);
        due("nothing marked", x.marked(4, 2), 0);
        due("none to tell of", x.markOf(0, 0), NONE);
        due("mark counts from one", x.mark(2, 0), 1);
        due("the new one alone", x.markOf(0, 0), 2);
    }

    private static void window() {
        promise = 6;
        PascalRows x = new PascalRows();
        due("window(127, 127)", x.window(127, 127), 0);
        due("window(128, 0)", x.window(128, 0), BAD);
        due("window(0, 128)", x.window(0, 128), BAD);
        due("window(-1, 0)", x.window(-1, 0), BAD);
        due("window(0, -1)", x.window(0, -1), BAD);
        due("window(MOST, LEAST)", x.window(MOST, LEAST), BAD);
        due("row", x.told(4), 127);
        due("place", x.told(5), 127);
        due("a place beyond its row", x.window(3, 99), 127127);
        due("window(0, 0)", x.window(0, 0), 3099);
    }

    private static void feed() {
        promise = 7;
        PascalRows x = new PascalRows();
        due("feed(-1)", x.feed(-1), BAD);
        due("feed(128)", x.feed(128), BAD);
        due("feed(0)", x.feed(0), 1);
        due("feed(127)", x.feed(127), 2);
        for (int i = 3; i <= 100; i++) {
            due("feed", x.feed(';'), i);
        }
        due("a sign too many", x.feed('p'), FULL);
        due("a wrong sign too many", x.feed(128), BAD);
        due("bytes", x.count(3), 100);
        due("read()", x.read(), -10);
        due("anew", x.feed('x'), 1);
    }

    private static void read() {
        promise = 8;
        PascalRows x = new PascalRows();
        due("p and e", readAll(x, "p3;e2"), 2);
        due("p", x.told(0), 3);
        due("e", x.told(1), 2);
        due("text is empty", x.count(3), 0);
        due("a mark", readAll(x, "m4001"), 1);
        due("its kind", x.markOf(0, 0), 4);
        due("its v", x.markOf(0, 1), 1);
        due("a mark of three digits", readAll(x, "m0999"), 1);
        due("its v", x.markOf(1, 1), 999);
        due("window", readAll(x, "w127,7"), 1);
        due("its row", x.told(4), 127);
        due("its place", x.told(5), 7);
        due("noughts ahead", readAll(x, "w001,000"), 1);
        due("its row", x.told(4), 1);
        due("its place", x.told(5), 0);
        due("x", readAll(x, "x"), 1);
        due("no marks", x.told(3), 0);
        due("x of none", readAll(x, "x;x"), 2);
        due("refused ones aren't done", readAll(x, "p4;p9;e0;e5;e9;m50;m90;w128,0;w0,128;w999,999;p2"), 1);
        due("the last was done", x.told(0), 2);
        due("what is so already is done, too", readAll(x, "p2;e2"), 2);
        due("one behind the other", readAll(x, "m01;x;m12;m23;p5;e1;p7"), 7);
        due("p", x.told(0), 7);
        due("marks", x.told(3), 2);
        due("kind of the first", x.markOf(0, 0), 1);
        due("a seventh mark is refused", readAll(x, "x;m01;m01;m01;m01;m01;m01;m01"), 7);
        due("twelve", readAll(x, "x;x;x;x;x;x;x;x;x;x;x;x"), 12);
    }

    private static void readFaults() {
        promise = 8;
        String[] texts = {"", "p", "e", "m", "m0", "w", "w1", "w12", "w123", "w1,", "x;", "p2;", ";", ";x", "P2", "p2 ",
            " p2", "px", "p;", "pp2", "p22", "e44", "m;0", "m0;", "m0x", "m01234", "m0,1", "w,1", "w1;1", "w1234,1", "w1,1234",
            "w1,1,1", "w-1,0", "xx", "x,x", "x;;x", "x;q", "p2;e1;m01;w5", "x;w1,", "p2;e3;x;m5x", "p:", "p/", "w1 ,1", "w1, 1",
            "x;x;x;x;x;x;x;x;x;x;x;x;x", "x;x;x;x;x;x;x;x;x;x;x;x;", "x;x;x;x;x;x;x;x;x;x;x;x;q", "x;x;x;x;x;x;x;x;x;x;x;xx"};
        int[] faults = {0, 1, 1, 1, 2, 1, 2, 3, 4, 3, 2, 3, 0, 0, 0, 2,
            0, 1, 1, 1, 2, 2, 1, 2, 2, 5, 2, 1, 2, 4, 6,
            4, 1, 1, 1, 2, 2, 12, 5, 10, 1, 1, 2, 3,
            23, 23, 23, 23};
        due("as many faults as texts", faults.length, texts.length);
        for (int i = 0; i < texts.length; i++) {
            // One object isn't asked more than 512 times.
            PascalRows x = by(3, 2);
            x.mark(0, 1);
            x.window(2, 1);
            due("read() of " + texts[i], readAll(x, texts[i]), -10 - faults[i]);
            due("text is empty behind " + texts[i], x.count(3), 0);
            due("nothing done of " + texts[i], x.told(0) * 100 + x.told(1) * 10 + x.told(3), 321);
            due("window stays", x.window(0, 0), 2001);
        }
        PascalRows x = by(3, 2);
        feedAll(x, "p2;e1;p3;e2;p5;e3;p2;e1;p3;e2;p5;m01;p2;e1;x");
        due("the faulty twelfth ; alone stops it", x.read(), -10 - 36);
        x.feed('x');
        x.feed(0);
        due("sign 0", x.read(), -11);
    }

    private static void told() {
        promise = 9;
        PascalRows x = by(7, 4);
        x.mark(0, 1);
        x.window(4, 3);
        due("told(-1)", x.told(-1), NONE);
        due("told(7)", x.told(7), NONE);
        due("told(0)", x.told(0), 7);
        due("told(1)", x.told(1), 4);
        due("told(2)", x.told(2), 2401);
        due("told(3)", x.told(3), 1);
        due("told(4)", x.told(4), 4);
        due("told(5)", x.told(5), 3);
        // Of rows 4 .. 11 with places 3 .. 10 the ones at the ends of rows 4 .. 10 are there.
        due("told(6)", x.told(6), 7);
        x.clear();
        due("none marked", x.told(6), 0);
        x.prime(2);
        x.power(1);
        x.window(0, 0);
        x.mark(4, 1);
        due("rows 0 .. 7 by 2", x.told(6), 27);
        x.mark(4, 0);
        due("places beyond their row aren't marked", x.told(6), 36);
        x.window(124, 0);
        due("rows beyond 127 aren't marked", x.told(6), 32);
    }

    private static void markOf() {
        promise = 10;
        PascalRows x = new PascalRows();
        due("none there", x.markOf(0, 0), NONE);
        x.mark(3, 17);
        x.mark(1, 2400);
        due("kind", x.markOf(0, 0), 3);
        due("v", x.markOf(0, 1), 17);
        due("kind of the second", x.markOf(1, 0), 1);
        due("v of the second", x.markOf(1, 1), 2400);
        due("mark 2", x.markOf(2, 0), NONE);
        due("mark -1", x.markOf(-1, 1), NONE);
        due("mark MOST", x.markOf(MOST, 1), NONE);
        due("what 2", x.markOf(0, 2), NONE);
        due("what -1", x.markOf(0, -1), NONE);
    }

    private static void at() {
        promise = 11;
        PascalRows x = by(7, 4);
        due("row -1", x.at(-1, 0), NONE);
        due("row 128", x.at(128, 0), NONE);
        due("place -1", x.at(5, -1), 0);
        due("place 6 of row 5", x.at(5, 6), 0);
        due("place MOST", x.at(127, MOST), 0);
        due("place LEAST", x.at(127, LEAST), 0);
        due("0, 0", x.at(0, 0), 1);
        int[] tenth = {1, 10, 45, 120, 210, 252, 210, 120, 45, 10, 1};
        for (int k = 0; k <= 10; k++) {
            due("10, " + k, x.at(10, k), tenth[k]);
        }
        due("14, 7 is 3432", x.at(14, 7), 3432 - 2401);
        due("127, 0", x.at(127, 0), 1);
        due("127, 127", x.at(127, 127), 1);
        due("127, 126", x.at(127, 126), 127);
        due("127, 2 is 8001", x.at(127, 2), 8001 % 2401);
        x.prime(5);
        due("14, 7 by 625", x.at(14, 7), 3432 % 625);
        x.power(1);
        due("14, 7 by 5", x.at(14, 7), 2);
    }

    private static void rule() {
        promise = 12;
        PascalRows x = by(3, 2);
        due("kind 5", x.rule(5, 0, 0), NONE);
        due("kind -1", x.rule(-1, 0, 0), NONE);
        for (int kind = 0; kind < 5; kind++) {
            due("row 128", x.rule(kind, 128, 0), NONE);
            due("row -1", x.rule(kind, -1, -1), NONE);
            due("place -1", x.rule(kind, 5, -1), NONE);
            due("place 6 of row 5", x.rule(kind, 5, 6), NONE);
        }
        // 20 is 202 by 3, 7 is 021, 13 is 111: one carry; 77520 is 3 by 9.
        due("direct", x.rule(0, 20, 7), 77520 % 9);
        due("lucas", x.rule(1, 20, 7), 0);
        due("kummer", x.rule(2, 20, 7), 1);
        due("legendre", x.rule(3, 20, 7), 1);
        due("bits", x.rule(4, 20, 7), 0);
        // 8 is 22 by 3, 4 is 11: 2 times 2 by 3 is 1; 70 is 7 by 9.
        due("direct", x.rule(0, 8, 4), 7);
        due("lucas", x.rule(1, 8, 4), 1);
        due("kummer", x.rule(2, 8, 4), 0);
        due("legendre", x.rule(3, 8, 4), 0);
        due("bits", x.rule(4, 8, 4), 1);
        x.prime(7);
        // 6 over 3 is 20, 6 by 7.
        due("lucas by 7", x.rule(1, 6, 3), 6);
        due("lucas by 7, two digits", x.rule(1, 48, 24), 1);
        x.prime(2);
        // 64 and 64 come to 128, beyond the rows; 127 and 1 likewise: carries go on from one to the next.
        due("kummer, carries in a row", x.rule(2, 64, 1), 6);
        due("legendre likewise", x.rule(3, 64, 1), 6);
        due("kummer of a row without", x.rule(2, 127, 85), 0);
        due("bits of a row without", x.rule(4, 127, 85), 1);
        due("0, 0", x.rule(1, 0, 0), 1);
        due("0, 0", x.rule(2, 0, 0), 0);
        due("0, 0", x.rule(3, 0, 0), 0);
        due("0, 0", x.rule(4, 0, 0), 1);
    }

    private static void marked() {
        promise = 13;
        PascalRows x = new PascalRows();
        x.mark(0, 0);
        due("beyond its row", x.marked(5, 6), NONE);
        due("place -1", x.marked(5, -1), NONE);
        due("row 128", x.marked(128, 0), NONE);
        due("row -1", x.marked(-1, 0), NONE);
        due("6 is even", x.marked(4, 2), 1);
        due("1 is odd", x.marked(4, 4), 0);
        x.mark(2, 0);
        due("by the second mark", x.marked(4, 4), 1);
        x.clear();
        x.mark(3, 2);
        due("4 over 1 by 2 twice", x.marked(4, 1), 1);
        due("4 over 2 by 2 once", x.marked(4, 2), 0);
        x.clear();
        x.mark(0, 2);
        due("by 2 no 2", x.marked(4, 2), 0);
        x.power(2);
        due("by 4 6 is 2", x.marked(4, 2), 1);
    }

    private static void digit() {
        promise = 14;
        PascalRows x = by(3, 4);
        due("v -1", x.digit(-1, 0), BAD);
        due("v 10000", x.digit(10000, 0), BAD);
        due("both wrong", x.digit(10000, -2), BAD);
        due("i -2", x.digit(5, -2), NONE);
        due("i LEAST", x.digit(5, LEAST), NONE);
        due("of 0", x.digit(0, -1), 1);
        due("of 0, digit 0", x.digit(0, 0), 0);
        due("of 0, digit 1", x.digit(0, 1), MISSING);
        // 23 is 212 by 3.
        due("of 23", x.digit(23, -1), 3);
        due("d0", x.digit(23, 0), 2);
        due("d1", x.digit(23, 1), 1);
        due("d2", x.digit(23, 2), 2);
        due("d3", x.digit(23, 3), MISSING);
        due("d MOST", x.digit(23, MOST), MISSING);
        due("of 3", x.digit(3, -1), 2);
        due("of 2", x.digit(2, -1), 1);
        x.prime(2);
        due("of 9999 by 2", x.digit(9999, -1), 14);
        due("its last", x.digit(9999, 13), 1);
        due("beyond", x.digit(9999, 14), MISSING);
        due("of 8192 by 2", x.digit(8192, 12), 0);
    }

    private static void pure() {
        promise = 15;
        PascalRows x = by(2, 3);
        due("v 0", x.pure(0, 0), BAD);
        due("v -4", x.pure(-4, 1), BAD);
        due("v 10000", x.pure(10000, 0), BAD);
        due("both wrong", x.pure(0, 2), BAD);
        due("what 2", x.pure(8, 2), NONE);
        due("what -1", x.pure(8, -1), NONE);
        due("8192", x.pure(8192, 0), 1);
        due("8192", x.pure(8192, 1), 13);
        due("24", x.pure(24, 0), 3);
        due("24", x.pure(24, 1), 3);
        due("9999", x.pure(9999, 0), 9999);
        due("9999", x.pure(9999, 1), 0);
        x.prime(3);
        due("9999 by 3", x.pure(9999, 0), 1111);
        due("9999 by 3", x.pure(9999, 1), 2);
        due("1", x.pure(1, 0), 1);
        due("1", x.pure(1, 1), 0);
    }

    private static void counted() {
        promise = 16;
        PascalRows x = by(2, 2);
        due("row -1", x.counted(-1, 0), NONE);
        due("row 128", x.counted(128, 0), NONE);
        // Row 4 by 4: 1 0 2 0 1.
        due("0 in row 4", x.counted(4, 0), 2);
        due("1 in row 4", x.counted(4, 1), 2);
        due("2 in row 4", x.counted(4, 2), 1);
        due("3 in row 4", x.counted(4, 3), 0);
        due("4 in row 4", x.counted(4, 4), 0);
        due("-1 in row 4", x.counted(4, -1), 0);
        due("MOST in row 4", x.counted(4, MOST), 0);
        due("1 in row 0", x.counted(0, 1), 1);
        x.power(1);
        due("1 in row 127", x.counted(127, 1), 128);
    }

    private static void row() {
        promise = 17;
        PascalRows x = by(2, 2);
        due("row -1", x.row(-1, 0), NONE);
        due("row 128", x.row(128, 0), NONE);
        due("what 4", x.row(5, 4), NONE);
        due("what -1", x.row(5, -1), NONE);
        // Row 4 by 4: 1 0 2 0 1; row 2: 1 2 1; row 5: 1 1 2 2 1 1.
        due("kinds of row 4", x.row(4, 0), 3);
        due("usual of row 4, the least of two", x.row(4, 1), 0);
        due("sum of row 4", x.row(4, 2), 4);
        due("depth of row 4", x.row(4, 3), 2);
        due("kinds of row 5", x.row(5, 0), 2);
        due("usual of row 5", x.row(5, 1), 1);
        due("sum of row 5", x.row(5, 2), 8);
        due("depth of row 5", x.row(5, 3), 1);
        due("kinds of row 0", x.row(0, 0), 1);
        due("usual of row 0", x.row(0, 1), 1);
        due("sum of row 0", x.row(0, 2), 1);
        due("depth of row 0", x.row(0, 3), 0);
        x.prime(7);
        x.power(4);
        // Row 5 by 2401: 1 5 10 10 5 1: all of them twice.
        due("usual of row 5, the least of three", x.row(5, 1), 1);
        due("kinds of row 5", x.row(5, 0), 3);
        due("sum of row 10", x.row(10, 2), 1024);
        x.prime(5);
        x.power(1);
        // Row 4 by 5: 1 4 1 4 1; row 7: 1 2 1 0 0 1 2 1.
        due("usual of row 4 by 5", x.row(4, 1), 1);
        due("usual of row 7 by 5", x.row(7, 1), 1);
        due("sum of row 7 by 5", x.row(7, 2), 8);
    }

    private static void kind() {
        promise = 18;
        PascalRows x = by(2, 2);
        due("row -1", x.kind(-1, 0), NONE);
        due("row 128", x.kind(128, 0), NONE);
        due("i -1", x.kind(4, -1), NONE);
        due("i LEAST", x.kind(4, LEAST), NONE);
        due("row 4, 0", x.kind(4, 0), 0);
        due("row 4, 1", x.kind(4, 1), 1);
        due("row 4, 2", x.kind(4, 2), 2);
        due("row 4, 3", x.kind(4, 3), MISSING);
        due("row 4, MOST", x.kind(4, MOST), MISSING);
        due("row 0, 0", x.kind(0, 0), 1);
        due("row 0, 1", x.kind(0, 1), MISSING);
        x.prime(7);
        x.power(4);
        // Row 14 by 2401: 1 14 91 364 1001 2002 602 1031 ..: all unlike, the least first.
        int[] kinds = {1, 14, 91, 364, 602, 1001, 1031, 2002};
        for (int i = 0; i < kinds.length; i++) {
            due("row 14, " + i, x.kind(14, i), kinds[i]);
        }
        due("row 14, 8", x.kind(14, 8), MISSING);
    }

    private static void upTo() {
        promise = 19;
        PascalRows x = new PascalRows();
        due("row -1", x.upTo(-1, 0), NONE);
        due("row 128", x.upTo(128, 2), NONE);
        due("what 3", x.upTo(5, 3), NONE);
        due("what -1", x.upTo(5, -1), NONE);
        // By 2 rows 0, 1, 3, 7, 15, .. are full.
        int[] rows = {0, 1, 2, 3, 6, 7, 126, 127};
        int[] full = {1, 2, 2, 3, 3, 4, 7, 8};
        int[] last = {0, 1, 1, 3, 3, 7, 63, 127};
        int[] heaviest = {0, 0, 2, 2, 4, 4, 112, 112};
        for (int i = 0; i < rows.length; i++) {
            due("full up to " + rows[i], x.upTo(rows[i], 0), full[i]);
            due("last full up to " + rows[i], x.upTo(rows[i], 1), last[i]);
            due("heaviest up to " + rows[i], x.upTo(rows[i], 2), heaviest[i]);
        }
        x.prime(5);
        due("full up to 4 by 5", x.upTo(4, 0), 5);
        due("heaviest up to 4 by 5", x.upTo(4, 2), 0);
        due("heaviest up to 5 by 5", x.upTo(5, 2), 5);
        due("the first of several", x.upTo(10, 2), 10);
    }

    private static void picture() {
        promise = 20;
        PascalRows x = new PascalRows();
        x.mark(0, 1);
        due("i -1", x.picture(-1), NONE);
        due("i 8", x.picture(8), NONE);
        int[] rows = {1, 3, 5, 15, 17, 51, 85, 255};
        for (int i = 0; i < 8; i++) {
            due("row " + i, x.picture(i), rows[i]);
        }
        x.mark(0, 0);
        due("beyond row 2 nothing", x.picture(2), 7);
        x.clear();
        x.mark(0, 1);
        x.window(2, 2);
        due("row 2 from place 2", x.picture(0), 1);
        due("row 7 from place 2", x.picture(5), 63);
        due("row 8 from place 2", x.picture(6), 64);
        x.window(126, 0);
        x.mark(0, 0);
        due("row 127", x.picture(1), 255);
        due("row 128", x.picture(2), 0);
        due("row 133", x.picture(7), 0);
        x.window(127, 124);
        due("places 124 .. 127", x.picture(0), 15);
    }

    private static void like() {
        promise = 21;
        PascalRows x = new PascalRows();
        due("a 128", x.like(128, 0, 0, 0, 1), NONE);
        due("b 128", x.like(0, 128, 0, 0, 1), NONE);
        due("c 128", x.like(0, 0, 128, 0, 1), NONE);
        due("d 128", x.like(0, 0, 0, 128, 1), NONE);
        due("a -1", x.like(-1, 0, 0, 0, 1), NONE);
        due("b -1", x.like(0, -1, 0, 0, 1), NONE);
        due("c -1", x.like(0, 0, -1, 0, 1), NONE);
        due("d -1", x.like(0, 0, 0, -1, 0), NONE);
        due("s 0", x.like(0, 0, 0, 0, 0), BAD);
        due("s 33", x.like(0, 0, 0, 0, 33), BAD);
        due("one place alike", x.like(0, 0, 127, 127, 1), 1);
        due("one place unlike", x.like(0, 0, 2, 1, 1), 0);
        due("32 rows below", x.like(0, 0, 32, 0, 32), 1);
        due("32 rows below, aside", x.like(0, 0, 32, 32, 32), 1);
        due("31 rows below", x.like(0, 0, 31, 0, 32), 0);
        due("beyond their rows all is 0", x.like(0, 90, 3, 127, 32), 1);
        due("4 columns alike", x.like(0, 0, 4, 0, 4), 1);
        due("the last column unlike", x.like(0, 0, 4, 0, 5), 0);
        // 1 0 above 0 0, and 1 0 above 0 1.
        due("the last place alone unlike", x.like(127, 127, 5, 1, 2), 0);
        due("row 127 and beyond it 0", x.like(127, 127, 0, 0, 1), 1);
        due("row 127 and beyond it 0, two", x.like(127, 127, 0, 0, 2), 0);
        due("both beyond", x.like(127, 127, 127, 127, 32), 1);
        due("row 127 against beyond it", x.like(126, 127, 127, 126, 2), 0);
    }

    private static void scaled() {
        promise = 22;
        PascalRows x = new PascalRows();
        due("s 0", x.scaled(0, 1), BAD);
        due("s 33", x.scaled(33, 1), BAD);
        due("t 0", x.scaled(8, 0), BAD);
        due("t 10", x.scaled(8, 10), BAD);
        due("s MOST", x.scaled(MOST, MOST), BAD);
        due("8 by 1", x.scaled(8, 1), 1);
        due("8 by 9", x.scaled(8, 9), 1);
        due("7 by 1", x.scaled(7, 1), 0);
        due("1 by 9", x.scaled(1, 9), 1);
        due("32 by 3 is all there", x.scaled(32, 3), 1);
        due("32 by 4 is beyond", x.scaled(32, 4), 0);
        due("32 by 9 is beyond", x.scaled(32, 9), 0);
        x.prime(3);
        due("9 by 1 by 3", x.scaled(9, 1), 1);
        due("8 by 1 by 3", x.scaled(8, 1), 0);
    }

    private static void see() {
        promise = 23;
        PascalRows x = new PascalRows();
        due("row 128", x.see(128, 0, 0), NONE);
        due("row -2", x.see(-2, 0, 0), NONE);
        due("place 6 of row 5", x.see(5, 6, 2401), NONE);
        due("place -1", x.see(5, -1, 0), NONE);
        due("v -1", x.see(5, 5, -1), BAD);
        due("v 2401", x.see(5, 5, 2401), BAD);
        due("none", x.count(0), 0);
        for (int i = 1; i <= 4; i++) {
            due("see", x.see(127, 127, 2400), i);
        }
        due("a fifth", x.see(0, 0, 1), FULL);
        due("a fifth, wrong v", x.see(0, 0, 2401), BAD);
        due("a fifth, wrong place", x.see(0, 1, 2401), NONE);
        due("four", x.count(0), 4);
        due("row -1", x.see(-1, 999, -999), 0);
        due("none", x.count(0), 0);
        due("anew", x.see(0, 0, 1), 1);
    }

    private static void fits() {
        promise = 24;
        PascalRows x = new PascalRows();
        due("nothing seen", x.fits(), 15);
        x.see(3, 1, 0);
        due("3 by 3", x.fits(), 2);
        x.see(-1, 0, 0);
        x.see(7, 3, 0);
        due("35 by 5 and 7", x.fits(), 12);
        x.see(5, 1, 5);
        due("5 by 7", x.fits(), 8);
        x.prime(7);
        due("whatever p is", x.fits(), 8);
        x.power(2);
        due("by 25 and 49 no 0", x.fits(), 0);
        x.see(-1, 0, 0);
        x.see(8, 4, 20);
        due("70 by 25", x.fits(), 4);
        x.see(8, 4, 21);
        due("both can't be", x.fits(), 0);
        x.see(-1, 0, 0);
        x.see(5, 1, 5);
        due("5 by 9, 25, 49", x.fits(), 14);
        x.see(-1, 0, 0);
        x.see(2, 1, 2);
        x.power(1);
        due("2 by 3, 5, 7", x.fits(), 14);
        x.see(0, 0, 2400);
        due("2400 is no remainder of 1", x.fits(), 0);
    }

    private static void odds() {
        promise = 25;
        PascalRows x = new PascalRows();
        due("row 128", x.odds(128, 0, 0, 0), NO);
        due("row -1", x.odds(-1, 0, 0, 0), NO);
        due("kind 5", x.odds(5, 5, 0, 0), NO);
        due("kind -1", x.odds(5, -1, 0, 0), NO);
        due("part 2", x.odds(5, 0, 0, 2), NO);
        due("part -1", x.odds(5, 0, 0, -1), NO);
        // Row 5 by 2: 1 1 0 0 1 1.
        due("four of six are odd", x.odds(5, 0, 1, 0), 2);
        due("four of six are odd", x.odds(5, 0, 1, 1), 3);
        due("lucas likewise", x.odds(5, 1, 1, 0), 2);
        due("bits likewise", x.odds(5, 4, 1, 1), 3);
        due("kummer", x.odds(5, 2, 1, 0), 1);
        due("kummer", x.odds(5, 2, 1, 1), 3);
        due("legendre", x.odds(5, 3, 0, 0), 2);
        due("all", x.odds(7, 0, 1, 0), 1);
        due("all", x.odds(7, 0, 1, 1), 1);
        due("none", x.odds(7, 0, 0, 0), 0);
        due("none", x.odds(7, 0, 0, 1), 1);
        due("v -1", x.odds(7, 0, -1, 0), 0);
        due("v -1", x.odds(7, 0, -1, 1), 1);
        due("v M", x.odds(6, 0, 2, 0), 0);
        due("v M", x.odds(6, 0, 2, 1), 1);
        due("v MOST", x.odds(6, 0, MOST, 1), 1);
        due("row 0", x.odds(0, 0, 1, 0), 1);
        due("row 0", x.odds(0, 0, 1, 1), 1);
    }

    private static void mean() {
        promise = 26;
        PascalRows x = by(2, 2);
        due("row 128", x.mean(128, 0), NO);
        due("row -1", x.mean(-1, 1), NO);
        due("part 2", x.mean(5, 2), NO);
        due("part -1", x.mean(5, -1), NO);
        due("row 0", x.mean(0, 0), 1);
        due("row 0", x.mean(0, 1), 1);
        due("row 4", x.mean(4, 0), 4);
        due("row 4", x.mean(4, 1), 5);
        due("row 5", x.mean(5, 0), 4);
        due("row 5", x.mean(5, 1), 3);
        x.prime(7);
        x.power(4);
        due("row 7 is 128 by 8", x.mean(7, 0), 16);
        due("row 7 is 128 by 8", x.mean(7, 1), 1);
    }

    private static void event() {
        promise = 27;
        PascalRows x = new PascalRows();
        due("what 4", x.event(4, 0), NONE);
        due("what -2", x.event(-2, 0), NONE);
        due("0: n 1", x.event(0, 1), BAD);
        due("0: n -1", x.event(0, -1), BAD);
        due("1: n 0", x.event(1, 0), BAD);
        due("1: n 5", x.event(1, 5), BAD);
        due("2: n -1", x.event(2, -1), BAD);
        due("2: n 100", x.event(2, 100), BAD);
        due("3: n -1", x.event(3, -1), BAD);
        due("3: n 6", x.event(3, 6), BAD);
        due("none", x.count(1), 0);
        int[] whats = {0, 1, 1, 2, 2, 3, 3, 0};
        int[] numbers = {0, 1, 4, 0, 99, 0, 5, 0};
        for (int i = 0; i < 8; i++) {
            due("event", x.event(whats[i], numbers[i]), i + 1);
        }
        due("a ninth", x.event(0, 0), FULL);
        due("a ninth, wrong n", x.event(0, 1), BAD);
        due("a ninth, wrong what", x.event(4, 1), NONE);
        due("eight", x.count(1), 8);
        due("what -1", x.event(-1, 999), 0);
        due("none", x.count(1), 0);
        due("anew", x.event(3, 5), 1);
    }

    private static void after() {
        promise = 28;
        PascalRows x = new PascalRows();
        due("what 3", x.after(3), NONE);
        due("what -1", x.after(-1), NONE);
        x.mark(0, 1);
        x.mark(0, 0);
        x.mark(2, 2);
        due("as it is", x.after(0), 36);
        due("as it is", x.after(1), 2);
        due("as it is", x.after(2), 3);
        x.event(3, 0);
        x.event(3, 0);
        // What was MARK 2 is 0 by now.
        due("one is left", x.after(2), 1);
        due("4 over 1 and 3 and 6 over 3 have two carries", x.after(0), 3);
        x.event(3, 5);
        due("none such", x.after(2), 1);
        x.event(3, 0);
        due("none left", x.after(2), 0);
        due("none marked", x.after(0), 0);
        due("marks stay", x.told(3), 3);
        x.event(-1, 0);
        int[] primes = {3, 5, 7, 2, 3};
        for (int i = 0; i < primes.length; i++) {
            x.event(0, 0);
            due("the next prime", x.after(1), primes[i]);
        }
        x.event(1, 4);
        due("and power", x.after(1), 81);
        x.event(1, 2);
        due("and power once more", x.after(1), 9);
        due("p stays", x.told(0), 2);
        due("e stays", x.told(1), 1);
        x.event(-1, 0);
        x.clear();
        x.mark(4, 1);
        x.window(120, 127);
        due("place 127 of row 127", x.after(0), 1);
        x.event(2, 7);
        due("row 127", x.after(0), 1);
        x.event(2, 1);
        due("127 at most", x.after(0), 1);
        x.event(2, 99);
        due("127 at most", x.after(0), 1);
        due("window stays", x.told(4), 120);
        x.window(0, 0);
        x.event(-1, 0);
        x.event(2, 7);
        // Rows 7 .. 14 by 2, places 0 .. 7.
        due("window goes on", x.after(0), 8 + 1 + 2 + 2 + 4 + 2 + 4 + 4);
        x.window(120, 0);
        due("seen as it is by now", x.after(0), 8);
        marksGo();
    }

    /** By 2 rows 0 .. 7 have 27 places without a carry, 6 with one, 3 with two. */
    private static void marksGo() {
        int[] vs = {9, 0, 8, 1, 7, 2};
        int[] gone = {0, 1, 2, 3, 4, 5};
        int[] left = {36, 9, 36, 30, 36, 33};
        PascalRows x = new PascalRows();
        for (int v : vs) {
            x.mark(2, v);
        }
        for (int i = 0; i < 6; i++) {
            x.event(-1, 0);
            x.event(3, gone[i]);
            due("mark " + i + " of six goes", x.after(2), 5);
            due("mark " + i + " of six goes", x.after(0), left[i]);
        }
        x.event(-1, 0);
        x.event(3, 0);
        x.event(3, 4);
        due("the last that is by then", x.after(0), 33);
        x.event(3, 1);
        x.event(3, 1);
        due("27 are left", x.after(0), 27);
        due("the marks stay", x.markOf(5, 1), 2);
        due("six stay", x.told(6), 36);
    }

    private static void book() {
        promise = 29;
        PascalRows x = new PascalRows();
        due("row 128", x.book(128, 0), NONE);
        due("row -2", x.book(-2, 2401), NONE);
        due("v -1", x.book(0, -1), BAD);
        due("v 2401", x.book(127, 2401), BAD);
        due("none", x.count(2), 0);
        for (int i = 1; i <= 8; i++) {
            due("book", x.book(127, 2400), i);
        }
        due("a ninth", x.book(0, 0), FULL);
        due("a ninth, wrong v", x.book(0, 2401), BAD);
        due("a ninth, wrong row", x.book(128, 0), NONE);
        due("eight", x.count(2), 8);
        due("row -1", x.book(-1, 9999), 0);
        due("none", x.count(2), 0);
        due("anew", x.book(0, 0), 1);
    }

    private static void looked() {
        promise = 30;
        PascalRows x = by(7, 2);
        due("an empty book", x.looked(), MISSING);
        x.book(10, 1);
        due("10, 10", x.looked(), MISSING);
        x.book(9, 0);
        due("beyond row 9", x.looked(), MISSING);
        x.book(11, 11);
        due("11, 10", x.looked(), MISSING);
        x.book(12, 66 - 49);
        due("12, 10", x.looked(), MISSING);
        x.book(12, 66);
        due("66 is no remainder", x.looked(), 4);
        x.power(3);
        due("by 343 the first 12 is otherwise", x.looked(), 3);
        x.prime(2);
        due("by 8 the 11 is otherwise", x.looked(), 2);
        x.book(-1, 0);
        x.book(0, 1);
        due("the very first", x.looked(), 0);
    }

    private static void judge() {
        promise = 31;
        PascalRows x = by(7, 1);
        due("row 128", x.judge(128, 0, 0), NONE);
        due("row -1", x.judge(-1, 0, 0), NONE);
        due("tape 6", x.judge(0, 6, 0), NONE);
        due("tape -1", x.judge(0, -1, 0), NONE);
        due("nothing there", x.judge(0, 0, 0), 200);
        due("nothing there, place -1", x.judge(0, 0, -1), 200);
        int[] others = {0, 2, 3, 4};
        for (int sort : others) {
            x.tape(1, sort, 60);
            due("sort " + sort, x.judge(0, 1, 0), CAST);
            due("sort " + sort + ", place -1", x.judge(0, 1, -1), CAST);
        }
        x.tape(2, 1, 60);
        fill(x, 2, 9, 1, 4, 6, 4, 1, 1);
        due("row 4", x.judge(4, 2, 1), MISSING);
        due("from the 9 on", x.judge(4, 2, 0), 0);
        due("row 5", x.judge(5, 2, 1), 1);
        due("row 0", x.judge(0, 2, 5), MISSING);
        due("row 1", x.judge(1, 2, 5), MISSING);
        due("row 2", x.judge(2, 2, 5), 1);
        x.item(2, 5, 8);
        due("8 isn't 1", x.judge(4, 2, 1), 4);
        due("place -1", x.judge(4, 2, -1), 200);
        due("place LEAST", x.judge(4, 2, LEAST), 200);
        due("place 60", x.judge(4, 2, 60), 200);
        due("place MOST", x.judge(127, 2, MOST), 200);
        x.item(2, 59, 1);
        due("ends behind one", x.judge(1, 2, 59), 201);
        due("just so", x.judge(0, 2, 59), MISSING);
        x.item(2, 59, 2);
        due("otherwise ahead of the end", x.judge(1, 2, 59), 0);
        x.tape(3, 1, 3);
        fill(x, 3, 1, 3, 3);
        due("ends behind three", x.judge(3, 3, 0), 203);
        due("ends behind one, 3", x.judge(3, 3, 2), 0);
        x.tape(3, 1, 0);
        due("a row of none", x.judge(0, 3, 0), 200);
        x.tape(3, 1, 2);
        fill(x, 3, 65537, 1);
        due("its lowest bits", x.judge(1, 3, 0), MISSING);
    }

    private static void image() {
        promise = 32;
        PascalRows x = by(5, 3);
        due("image()", x.image(), 125);
        x.prime(2);
        x.power(4);
        due("image() anew", x.image(), 16);
        x.prime(3);
        due("the new one counts", x.undo(), 16);
        due("p", x.told(0), 2);
    }

    private static void undo() {
        promise = 33;
        PascalRows x = new PascalRows();
        due("no image", x.undo(), STATE);
        x.prime(3);
        x.power(2);
        x.mark(1, 2);
        x.mark(3, 4);
        x.window(20, 21);
        x.see(4, 2, 6);
        x.event(1, 3);
        x.event(0, 0);
        x.book(12, 3);
        x.feed('x');
        x.tape(0, 2, 3);
        x.image();
        x.prime(7);
        x.power(1);
        x.clear();
        x.mark(0, 0);
        x.mark(0, 0);
        x.mark(0, 0);
        x.window(1, 2);
        x.see(-1, 0, 0);
        x.event(-1, 0);
        x.event(1, 1);
        x.event(1, 1);
        x.event(1, 1);
        x.book(-1, 0);
        x.book(0, 1);
        x.book(0, 1);
        x.feed(';');
        x.item(0, 1, 77);
        for (int times = 0; times < 2; times++) {
            due("undo()", x.undo(), 9);
            due("p", x.told(0), 3);
            due("e", x.told(1), 2);
            due("marks", x.told(3), 2);
            due("a mark's kind", x.markOf(1, 0), 3);
            due("a mark's v", x.markOf(0, 1), 2);
            due("seen", x.count(0), 1);
            due("fits", x.fits(), 15 - 1);
            due("events", x.count(1), 2);
            due("after", x.after(1), 125);
            due("book", x.count(2), 1);
            due("looked", x.looked(), MISSING);
            due("text stays", x.count(3), 2);
            due("tapes stay", x.peek(0, 1), 77);
            due("window", x.window(0, 0), 20021);
            x.mark(2, 2);
            x.book(12, 4);
            x.see(1, 1, 5);
            x.event(2, 2);
            x.power(4);
        }
    }

    private static void count() {
        promise = 34;
        PascalRows x = new PascalRows();
        due("what -1", x.count(-1), BAD);
        due("what 4", x.count(4), BAD);
        x.see(0, 0, 0);
        x.event(0, 0);
        x.event(0, 0);
        for (int i = 0; i < 3; i++) {
            x.book(0, 0);
        }
        feedAll(x, "abcd");
        for (int what = 0; what < 4; what++) {
            due("what " + what, x.count(what), what + 1);
        }
    }

    private static void tape() {
        promise = 35;
        PascalRows x = new PascalRows();
        due("tape 6", x.tape(6, 0, 1), NONE);
        due("tape -1", x.tape(-1, -1, 1), NONE);
        due("tape 6, all wrong", x.tape(6, 9, -1), NONE);
        due("sort 5", x.tape(0, 5, 1), BAD);
        due("sort -2", x.tape(0, -2, 1), BAD);
        due("sort 5, n -1", x.tape(0, 5, -1), BAD);
        due("n 61", x.tape(0, 0, 61), BAD);
        due("n MOST", x.tape(0, 0, MOST), BAD);
        due("n -1", x.tape(0, 0, -1), SIZE);
        due("n LEAST", x.tape(0, 4, LEAST), SIZE);
        due("nothing came", x.item(0, 0, 0), NOTHING);
        due("n 60", x.tape(0, 3, 60), 1);
        due("its last", x.peek(0, 59), 0);
        due("beyond", x.peek(0, 60), NO);
        x.item(0, 0, 7);
        due("refused", x.tape(0, 3, 61), BAD);
        due("refused, stays", x.peek(0, 0), 7);
        due("anew", x.tape(0, 3, 2), 1);
        due("all 0", x.peek(0, 0), 0);
        due("n 0", x.tape(0, 1, 0), 1);
        due("a row of none is no nothing", x.item(0, 0, 0), PLACE);
        due("sort -1, n -1", x.tape(0, -1, -1), 1);
        due("nothing", x.item(0, 0, 0), NOTHING);
        due("sort -1, n 61", x.tape(0, -1, 61), 1);
        for (int tape = 0; tape < 6; tape++) {
            due("each tape", x.tape(tape, tape % 5, 60), 1);
            x.item(tape, 59, 1);
        }
        due("one anew", x.tape(2, 2, 60), 1);
        due("the one ahead stays", x.peek(1, 59), 1);
        due("it is 0", x.peek(2, 59), 0);
        due("the one behind stays", x.peek(3, 59), 1);
    }

    private static void item() {
        promise = 36;
        PascalRows x = new PascalRows();
        due("tape 6", x.item(6, 0, 1), NONE);
        due("tape -1", x.item(-1, -1, 1), NONE);
        due("nothing", x.item(0, 0, 1), NOTHING);
        due("nothing, place -1", x.item(0, -1, 1), NOTHING);
        for (int sort = 0; sort < 5; sort++) {
            x.tape(sort, sort, 3);
            due("place -1", x.item(sort, -1, 1), PLACE);
            due("place 3", x.item(sort, 3, 1), PLACE);
            due("place MOST", x.item(sort, MOST, 1), PLACE);
            due("place LEAST", x.item(sort, LEAST, 1), PLACE);
            due("place 2", x.item(sort, 2, 0x123456789abcdef0L), 1);
            due("place 1", x.item(sort, 1, 0xfedcba9876543210L), 1);
            due("place 0", x.item(sort, 0, 0x100000000L), 1);
        }
        long[] seconds = {0x10, 0x3210, 0x76543210, 0xfedcba9876543210L, 1};
        long[] thirds = {-16, (short) 0xdef0, 0x9abcdef0, 0x123456789abcdef0L, 1};
        long[] firsts = {0, 0, 0, 0x100000000L, 1};
        for (int sort = 0; sort < 5; sort++) {
            due("first of sort " + sort, x.peek(sort, 0), firsts[sort]);
            due("second of sort " + sort, x.peek(sort, 1), seconds[sort]);
            due("third of sort " + sort, x.peek(sort, 2), thirds[sort]);
        }
        x.item(4, 1, 0);
        due("a boolean 0", x.peek(4, 1), 0);
        x.item(4, 1, -2);
        due("a boolean of -2", x.peek(4, 1), 1);
    }

    private static void peek() {
        promise = 37;
        PascalRows x = new PascalRows();
        due("tape 6", x.peek(6, 0), NO);
        due("tape -1", x.peek(-1, 0), NO);
        due("nothing", x.peek(0, 0), NO);
        x.tape(0, 3, 2);
        x.tape(1, 3, 2);
        x.item(0, 1, Long.MAX_VALUE);
        x.item(1, 0, 5);
        due("0", x.peek(0, 0), 0);
        due("1", x.peek(0, 1), Long.MAX_VALUE);
        due("2", x.peek(0, 2), NO);
        due("-1", x.peek(0, -1), NO);
        due("MOST", x.peek(0, MOST), NO);
        due("LEAST", x.peek(0, LEAST), NO);
        due("the other", x.peek(1, 0), 5);
        x.tape(0, -1, 0);
        due("nothing any more", x.peek(0, 1), NO);
    }

    private static void shift() {
        promise = 38;
        PascalRows x = new PascalRows();
        x.tape(0, 2, 5);
        x.tape(1, 2, 4);
        x.tape(2, 1, 5);
        fill(x, 0, 10, 11, 12, 13, 14);
        fill(x, 1, 20, 21, 22, 23);
        due("tape 6", x.shift(6, 0, 0, 0, 1), NONE);
        due("tape -1", x.shift(-1, 0, 0, 0, 1), NONE);
        due("other 6", x.shift(0, 0, 6, 0, 1), NONE);
        due("other -1", x.shift(3, 0, -1, 0, 1), NONE);
        due("nothing", x.shift(3, 0, 0, 0, 1), NOTHING);
        due("other nothing", x.shift(0, 0, 3, 0, -1), NOTHING);
        due("unlike sorts", x.shift(0, 0, 2, 0, 1), CAST);
        due("unlike sorts, n -1", x.shift(0, 0, 2, 0, -1), CAST);
        due("n -1", x.shift(0, 0, 1, 0, -1), PLACE);
        due("i -1", x.shift(0, -1, 1, 0, 1), PLACE);
        due("j -1", x.shift(0, 0, 1, -1, 1), PLACE);
        due("beyond the one", x.shift(1, 3, 0, 0, 2), PLACE);
        due("beyond the other", x.shift(0, 0, 1, 3, 2), PLACE);
        due("n 5", x.shift(0, 0, 1, 0, 5), PLACE);
        due("i MOST", x.shift(0, MOST, 1, 0, 1), PLACE);
        due("n MOST", x.shift(0, 1, 1, 1, MOST), PLACE);
        due("n LEAST", x.shift(0, 1, 1, 1, LEAST), PLACE);
        due("none beyond", x.shift(0, 6, 1, 0, 0), PLACE);
        due("none beyond the other", x.shift(0, 0, 1, 5, 0), PLACE);
        due("none at the ends", x.shift(0, 5, 1, 4, 0), 0);
        items(x, 1, 20, 21, 22, 23);
        due("two", x.shift(0, 3, 1, 1, 2), 2);
        items(x, 0, 10, 11, 12, 13, 14);
        items(x, 1, 20, 13, 14, 23);
        due("up the same", x.shift(0, 0, 0, 1, 4), 4);
        items(x, 0, 10, 10, 11, 12, 13);
        due("down the same", x.shift(0, 1, 0, 0, 4), 4);
        items(x, 0, 10, 11, 12, 13, 13);
        due("all of it", x.shift(1, 0, 0, 1, 4), 4);
        items(x, 0, 10, 20, 13, 14, 23);
        x.tape(4, 2, 60);
        x.tape(5, 2, 60);
        x.item(4, 0, 1);
        x.item(4, 59, 2);
        due("60 to the last", x.shift(4, 0, 5, 0, 60), 60);
        due("its first", x.peek(5, 0), 1);
        due("its last", x.peek(5, 59), 2);
        x.item(5, 0, 3);
        due("60 from the last", x.shift(5, 0, 4, 0, 60), 60);
        due("its first", x.peek(4, 0), 3);
        due("the last onto the first", x.shift(5, 59, 5, 0, 1), 1);
        due("its first", x.peek(5, 0), 2);
    }

    private static void items(PascalRows x, int tape, long... items) {
        for (int i = 0; i < items.length; i++) {
            due("item " + i + " of tape " + tape, x.peek(tape, i), items[i]);
        }
    }
}
