/** The sentences of promises 1 to 38, each by a test of its own. */
public final class PromiseSentencesTest extends Sentences {
    public static void main(String[] args) {
        begin();
        newObject();
        prime();
        power();
        mark();
        clear();
        window();
        feed();
        read();
        told();
        markOf();
        at();
        rule();
        marked();
        digit();
        pure();
        counted();
        row();
        kind();
        upTo();
        picture();
        like();
        scaled();
        see();
        fits();
        odds();
        mean();
        event();
        after();
        book();
        looked();
        judge();
        image();
        undo();
        count();
        tape();
        item();
        peek();
        shift();
        for (int promise = 1; promise <= 38; promise++) {
            everySentenceIsTold("Promise " + promise);
        }
        end("all sentences of the promises hold");
    }

    /** Numbers that no row, place, kind, mark and so on has: too small and, from this one on, too large. */
    private static int[] beyond(int most) {
        return new int[] {LEAST, LEAST + 1, -128, -2, -1, most + 1, most + 2, most + 128, MOST - 1, MOST};
    }

    private static void newObject() {
        of("Promise 1", "p 2, e 1, no MARKS.");
        due("told(0)", new PascalRows().told(0), 2);
        due("told(1)", new PascalRows().told(1), 1);
        due("told(2)", new PascalRows().told(2), 2);
        due("told(3)", new PascalRows().told(3), 0);
        due("clear()", new PascalRows().clear(), 0);
        due("markOf(0, 0)", new PascalRows().markOf(0, 0), NONE);
        PascalRows x = furnished();
        due("told(3) of one beside one with marks", new PascalRows().told(3), 0);
        due("prime(2) of one", x.prime(2), 3);
        due("told(0) of one beside it", new PascalRows().told(0), 2);
    }

    // ---- the prime, marks

    private static void prime() {
        of("Promise 2", "p becomes this: what it was.");
        for (int was : PRIMES) {
            for (int p : PRIMES) {
                PascalRows x = by(was, 3);
                due("prime(" + p + ")", x.prime(p), was);
                due("told(0)", x.told(0), p);
                due("told(1)", x.told(1), 3);
                due("told(2)", x.told(2), p * p * p);
                due("digit(" + p + ", -1)", x.digit(p, -1), 2);
            }
        }
        of("Promise 2", "BAD.");
        for (int p : new int[] {LEAST, -7, -5, -3, -2, -1, 0, 1, 4, 6, 8, 9, 10, 11, 13, 49, 258, 65538, MOST}) {
            unmoved("prime(" + p + ")", x -> x.prime(p), BAD);
        }
    }

    private static void power() {
        of("Promise 3", "e becomes this: what it was.");
        for (int was = 1; was <= 4; was++) {
            for (int e = 1; e <= 4; e++) {
                PascalRows x = by(2, was);
                due("power(" + e + ")", x.power(e), was);
                due("told(1)", x.told(1), e);
                due("told(0)", x.told(0), 2);
                due("told(2)", x.told(2), 1 << e);
            }
        }
        of("Promise 3", "BAD.");
        for (int e : new int[] {LEAST, -4, -1, 0, 5, 6, 257, 65537, MOST}) {
            unmoved("power(" + e + ")", x -> x.power(e), BAD);
        }
    }

    private static void mark() {
        of("Promise 4", "A MARK comes: how many there are.");
        PascalRows x = new PascalRows();
        int[][] marks = {{0, 0}, {4, 2400}, {4, 2400}, {1, 6}, {2, 1}, {3, 0}};
        for (int n = 0; n < 6; n++) {
            due("mark " + (n + 1), x.mark(marks[n][0], marks[n][1]), n + 1);
            due("told(3)", x.told(3), n + 1);
        }
        for (int n = 0; n < 6; n++) {
            due("kind of mark " + n, x.markOf(n, 0), marks[n][0]);
            due("v of mark " + n, x.markOf(n, 1), marks[n][1]);
        }
        of("Promise 4", "NONE: kind (0 .. 4);");
        due("mark(0, 0)", new PascalRows().mark(0, 0), 1);
        due("mark(4, 0)", new PascalRows().mark(4, 0), 1);
        for (int kind : beyond(4)) {
            unmoved("mark(" + kind + ", 0)", y -> y.mark(kind, 0), NONE);
            unmoved("mark(" + kind + ", -1)", y -> y.mark(kind, -1), NONE);
            unmoved(Sentences::brimful, "mark(" + kind + ", 0)", y -> y.mark(kind, 0), NONE);
        }
        of("Promise 4", "BAD: v (0 .. 2400);");
        due("mark(3, 0)", new PascalRows().mark(3, 0), 1);
        due("mark(3, 2400)", new PascalRows().mark(3, 2400), 1);
        for (int v : beyond(2400)) {
            unmoved("mark(0, " + v + ")", y -> y.mark(0, v), BAD);
            unmoved(Sentences::brimful, "mark(4, " + v + ")", y -> y.mark(4, v), BAD);
        }
        of("Promise 4", "FULL: 6.");
        for (int kind = 0; kind < 5; kind++) {
            int k = kind;
            unmoved(Sentences::brimful, "mark(" + kind + ", 2400)", y -> y.mark(k, 2400), FULL);
        }
        x.clear();
        for (int n = 1; n <= 6; n++) {
            due("mark " + n + " behind clear()", x.mark(0, 0), n);
        }
        due("mark 7", x.mark(0, 0), FULL);
    }

    private static void clear() {
        of("Promise 5", "There are no MARKS any more: how many there were.");
        for (int n = 0; n <= 6; n++) {
            PascalRows x = new PascalRows();
            for (int i = 0; i < n; i++) {
                x.mark(4, 1);
            }
            due("clear() of " + n, x.clear(), n);
            due("told(3)", x.told(3), 0);
            due("told(6)", x.told(6), 0);
            due("marked(0, 0)", x.marked(0, 0), 0);
            due("markOf(0, 0)", x.markOf(0, 0), NONE);
            due("clear() once more", x.clear(), 0);
        }
    }

    private static void window() {
        of("Promise 6", "THE WINDOW is from this row and place on:");
        int[][] windows = {{0, 0}, {127, 127}, {0, 127}, {127, 0}, {3, 99}, {1, 2}};
        for (int[] w : windows) {
            PascalRows x = new PascalRows();
            due("window(" + w[0] + ", " + w[1] + ")", x.window(w[0], w[1]), 0);
            due("told(4)", x.told(4), w[0]);
            due("told(5)", x.told(5), w[1]);
        }
        of("Promise 6", "1000 times its row as it was, and its place, together.");
        PascalRows x = new PascalRows();
        int was = 0;
        for (int[] w : windows) {
            due("window(" + w[0] + ", " + w[1] + ")", x.window(w[0], w[1]), was);
            was = 1000 * w[0] + w[1];
        }
        due("window(0, 0)", x.window(0, 0), 1002);
        of("Promise 6", "BAD: row (0 .. 127), place (0 .. 127).");
        for (int row : new int[] {0, 1, 127}) {
            for (int place : new int[] {0, 1, 127}) {
                due("window(" + row + ", " + place + ")", new PascalRows().window(row, place), 0);
            }
        }
        for (int none : beyond(127)) {
            unmoved("window(" + none + ", 0)", y -> y.window(none, 0), BAD);
            unmoved("window(127, " + none + ")", y -> y.window(127, none), BAD);
            unmoved("window(" + none + ", " + none + ")", y -> y.window(none, none), BAD);
        }
    }

    private static void feed() {
        of("Promise 7", "A sign (0 .. 127) comes behind THE TEXT's: how many it has.");
        PascalRows x = new PascalRows();
        due("feed(0)", x.feed(0), 1);
        due("feed(127)", x.feed(127), 2);
        for (int n = 3; n <= 100; n++) {
            due("feed(" + n + ")", x.feed(n), n);
            due("count(3)", x.count(3), n);
        }
        PascalRows y = new PascalRows();
        due("p", y.feed('p'), 1);
        due("5", y.feed('5'), 2);
        due("they stand in that order", y.read(), 1);
        due("told(0)", y.told(0), 5);
        of("Promise 7", "BAD;");
        due("feed(0)", new PascalRows().feed(0), 1);
        due("feed(127)", new PascalRows().feed(127), 1);
        for (int sign : new int[] {LEAST, -128, -1, 128, 255, 256, 256 + 'x', 65536 + 'x', MOST}) {
            unmoved("feed(" + sign + ")", z -> z.feed(sign), BAD);
            unmoved(Sentences::brimful, "feed(" + sign + ")", z -> z.feed(sign), BAD);
        }
        of("Promise 7", "FULL.");
        for (int sign : new int[] {0, 'x', ';', 127}) {
            unmoved(Sentences::brimful, "feed(" + sign + ")", z -> z.feed(sign), FULL);
        }
        due("byte 101", x.feed('x'), FULL);
        due("count(3)", x.count(3), 100);
        x.read();
        due("it is empty then", x.feed('x'), 1);
    }

    private static void read() {
        of("Promise 8", "THE TEXT, which is empty then (by a FAULT, too), is a set-up: how many CLAUSES were done;");
        PascalRows x = new PascalRows();
        int[] answers = {1, 2, 0, 1, 12, -10, -11, -13, -10};
        String[] texts = {"p3", "p5;e2", "p4", "p9;e3", "x;x;x;x;x;x;x;x;x;x;x;x", "q", "p", "p3;q", ""};
        for (int i = 0; i < texts.length; i++) {
            due("read() of " + texts[i], readAll(x, texts[i]), answers[i]);
            due("count(3)", x.count(3), 0);
            due("read() once more", x.read(), -10);
        }
        due("what was done", 10 * x.told(0) + x.told(1), 53);
        due("those refused aren't counted", readAll(x, "p0;e2;e5;m51;m00;w128,1;x"), 3);
        of("Promise 8", "-10 less the FAULT.");
        String eleven = "w001,002;".repeat(11);
        for (int at = 0; at <= 98; at++) {
            // A sign that never stands in a set-up, and what is behind it doesn't count.
            due("read() with the fault at " + at, readAll(new PascalRows(), eleven.substring(0, at) + "?" + eleven.substring(at + 1)), -10 - at);
        }
        due("the fault at 99", readAll(new PascalRows(), eleven + "?"), -109);
        due("the fault at 100", readAll(new PascalRows(), eleven + "p"), -110);
        due("the fault at 0", new PascalRows().read(), -10);
    }

    // ---- what is told

    private static void told() {
        of("Promise 9", "0 p, 1 e, 2 M, 3 how many MARKS, 4 THE WINDOW's row, 5 its place, 6 how many places in it are MARKED.");
        PascalRows x = marking(by(7, 4), 0, 1);
        x.window(4, 3);
        // Of rows 4 .. 11 with places 3 .. 10 the 1 at the end stands in rows 4 .. 10.
        int[] answers = {7, 4, 2401, 1, 4, 3, 7};
        for (int what = 0; what < 7; what++) {
            due("told(" + what + ")", x.told(what), answers[what]);
        }
        x.mark(0, 11);
        due("11, 10 too", x.told(6), 8);
        x.mark(0, 1);
        due("what is marked twice counts once", x.told(6), 8);
        due("none of no marks", by(2, 1).told(6), 0);
        due("64 at most", told6(marking(by(2, 1), 4, 0, 4, 1), 60, 30), 64);
        of("Promise 9", "NONE.");
        due("told(0)", x.told(0), 7);
        due("told(6)", x.told(6), 8);
        for (int what : beyond(6)) {
            unmoved("told(" + what + ")", y -> y.told(what), NONE);
        }
    }

    private static int told6(PascalRows x, int row, int place) {
        x.window(row, place);
        return x.told(6);
    }

    private static void markOf() {
        of("Promise 10", "Of a MARK its KIND (what 0), v (1).");
        PascalRows x = marking(new PascalRows(), 3, 17, 1, 2400, 0, 0);
        due("markOf(0, 0)", x.markOf(0, 0), 3);
        due("markOf(0, 1)", x.markOf(0, 1), 17);
        due("markOf(1, 0)", x.markOf(1, 0), 1);
        due("markOf(1, 1)", x.markOf(1, 1), 2400);
        due("markOf(2, 0)", x.markOf(2, 0), 0);
        due("markOf(2, 1)", x.markOf(2, 1), 0);
        of("Promise 10", "NONE: mark, what.");
        for (int n = 0; n <= 6; n++) {
            PascalRows y = new PascalRows();
            for (int i = 0; i < n; i++) {
                y.mark(4, 9);
            }
            for (int mark = 0; mark < 8; mark++) {
                due("markOf(" + mark + ", 1) of " + n, y.markOf(mark, 1), mark < n ? 9 : NONE);
            }
        }
        for (int none : beyond(2)) {
            unmoved("markOf(" + none + ", 0)", y -> y.markOf(none, 0), NONE);
        }
        for (int none : beyond(1)) {
            unmoved("markOf(0, " + none + ")", y -> y.markOf(0, none), NONE);
        }
        x.clear();
        due("markOf(0, 0) behind clear()", x.markOf(0, 0), NONE);
        due("markOf(-1, 0) of none", x.markOf(-1, 0), NONE);
    }

    private static void at() {
        of("Promise 11", "REMAINDER of a place.");
        PascalRows x = by(7, 4);
        int[] tenth = {1, 10, 45, 120, 210, 252, 210, 120, 45, 10, 1};
        for (int k = 0; k <= 10; k++) {
            due("at(10, " + k + ")", x.at(10, k), tenth[k]);
        }
        due("at(0, 0)", x.at(0, 0), 1);
        due("at(14, 7)", x.at(14, 7), 3432 - 2401);
        for (int k = 0; k <= 127; k++) {
            due("at(127, " + k + ")", x.at(127, k), remainder(127, k, 2401));
        }
        of("Promise 11", "NONE: row;");
        due("at(0, 0)", x.at(0, 0), 1);
        due("at(127, 0)", x.at(127, 0), 1);
        for (int row : beyond(127)) {
            unmoved("at(" + row + ", 0)", y -> y.at(row, 0), NONE);
            unmoved("at(" + row + ", -1)", y -> y.at(row, -1), NONE);
        }
        of("Promise 11", "a place that isn't there: 0.");
        for (int row : new int[] {0, 1, 64, 126, 127}) {
            for (int place : beyond(row)) {
                unmoved("at(" + row + ", " + place + ")", y -> y.at(row, place), 0);
            }
            due("at(" + row + ", " + row + ")", x.at(row, row), 1);
        }
    }

    private static void rule() {
        of("Promise 12", "What a RULE tells.");
        // 20 is 202 by 3, 7 is 021, 13 is 111; 8 is 22, 4 is 11; 77520 is 3 modulo 9, 70 is 7.
        int[][] told = {{20, 7, 3, 0, 1, 1, 0}, {8, 4, 7, 1, 0, 0, 1}, {0, 0, 1, 1, 0, 0, 1}, {9, 3, 84 % 9, 0, 1, 1, 0}, {2, 1, 2, 2, 0, 0, 1},
            {81, 1, 0, 0, 4, 4, 0}};
        for (int[] t : told) {
            for (int kind = 0; kind < 5; kind++) {
                due("rule(" + kind + ", " + t[0] + ", " + t[1] + ")", by(3, 2).rule(kind, t[0], t[1]), t[2 + kind]);
            }
        }
        of("Promise 12", "NONE: kind, row, place.");
        for (int none : beyond(4)) {
            unmoved("rule(" + none + ", 0, 0)", x -> x.rule(none, 0, 0), NONE);
        }
        for (int kind = 0; kind < 5; kind++) {
            int k = kind;
            for (int none : beyond(127)) {
                unmoved("rule(" + kind + ", " + none + ", 0)", x -> x.rule(k, none, 0), NONE);
                unmoved("rule(" + kind + ", 127, " + none + ")", x -> x.rule(k, 127, none), NONE);
            }
            for (int row : new int[] {0, 1, 126}) {
                unmoved("rule(" + kind + ", " + row + ", -1)", x -> x.rule(k, row, -1), NONE);
                unmoved("rule(" + kind + ", " + row + ", " + (row + 1) + ")", x -> x.rule(k, row, row + 1), NONE);
            }
            due("rule(" + kind + ", 127, 127) by 2", by(2, 1).rule(kind, 127, 127), kind == 2 || kind == 3 ? 0 : 1);
        }
    }

    private static void marked() {
        of("Promise 13", "Whether a place is MARKED (1, 0).");
        PascalRows x = marking(new PascalRows(), 0, 0);
        due("6 is even", x.marked(4, 2), 1);
        due("1 isn't", x.marked(4, 4), 0);
        due("1 isn't", x.marked(0, 0), 0);
        x.mark(0, 0);
        due("twice is 1, too", x.marked(4, 2), 1);
        due("none of no marks", new PascalRows().marked(4, 2), 0);
        of("Promise 13", "NONE: row, place.");
        for (int none : beyond(127)) {
            unmoved("marked(" + none + ", 0)", y -> y.marked(none, 0), NONE);
            unmoved("marked(127, " + none + ")", y -> y.marked(127, none), NONE);
        }
        for (int row = 0; row < 128; row++) {
            PascalRows y = marking(new PascalRows(), 0, 0, 0, 1);
            due("marked(" + row + ", " + row + ")", y.marked(row, row), 1);
            due("marked(" + row + ", " + (row + 1) + ")", y.marked(row, row + 1), NONE);
            due("marked(" + row + ", -1)", y.marked(row, -1), NONE);
        }
    }

    private static void digit() {
        of("Promise 14", "DIGIT i of a number by p;");
        // 23 is 212 by 3, 43 by 5, 32 by 7, 10111 by 2.
        int[][] digits = {{1, 1, 1, 0, 1}, {2, 1, 2}, {3, 4}, {2, 3}};
        for (int j = 0; j < 4; j++) {
            for (int i = 0; i < digits[j].length; i++) {
                due("digit(23, " + i + ") by " + PRIMES[j], by(PRIMES[j], 4).digit(23, i), digits[j][i]);
            }
        }
        due("digit(0, 0)", by(7, 1).digit(0, 0), 0);
        due("digit(9999, 13)", by(2, 1).digit(9999, 13), 1);
        of("Promise 14", "i -1: how many it has;");
        int[][] many = {{2, 0, 1}, {2, 1, 1}, {2, 2, 2}, {2, 8191, 13}, {2, 8192, 14}, {2, 9999, 14}, {3, 2, 1}, {3, 3, 2}, {3, 6560, 8}, {3, 6561, 9},
            {3, 9999, 9}, {5, 3124, 5}, {5, 3125, 6}, {5, 9999, 6}, {7, 6, 1}, {7, 7, 2}, {7, 2400, 4}, {7, 2401, 5}, {7, 9999, 5}};
        for (int[] m : many) {
            due("digit(" + m[1] + ", -1) by " + m[0], by(m[0], 1).digit(m[1], -1), m[2]);
        }
        of("Promise 14", "-5: there are not as many.");
        for (int[] m : many) {
            PascalRows x = by(m[0], 1);
            due("digit(" + m[1] + ", " + m[2] + ") by " + m[0], x.digit(m[1], m[2]), MISSING);
            due("digit(" + m[1] + ", MOST) by " + m[0], x.digit(m[1], MOST), MISSING);
            check(x.digit(m[1], m[2] - 1) >= (m[1] == 0 ? 0 : 1), "the last digit of " + m[1] + " by " + m[0] + " is there");
        }
        of("Promise 14", "BAD: v (0 .. 9999);");
        due("digit(0, 0)", by(2, 1).digit(0, 0), 0);
        due("digit(9999, 0)", by(2, 1).digit(9999, 0), 1);
        for (int v : beyond(9999)) {
            unmoved("digit(" + v + ", 0)", x -> x.digit(v, 0), BAD);
            unmoved("digit(" + v + ", -1)", x -> x.digit(v, -1), BAD);
            unmoved("digit(" + v + ", -2)", x -> x.digit(v, -2), BAD);
        }
        of("Promise 14", "NONE: i below -1.");
        due("digit(0, -1)", by(2, 1).digit(0, -1), 1);
        due("digit(9999, -1)", by(2, 1).digit(9999, -1), 14);
        for (int i : new int[] {LEAST, LEAST + 1, -100, -3, -2}) {
            unmoved("digit(0, " + i + ")", x -> x.digit(0, i), NONE);
            unmoved("digit(9999, " + i + ")", x -> x.digit(9999, i), NONE);
        }
    }

    private static void pure() {
        of("Promise 15", "PURE of a number (what 0), how often it can be divided by p (1).");
        int[][] told = {{2, 1, 1, 0}, {2, 2, 1, 1}, {2, 24, 3, 3}, {2, 8192, 1, 13}, {2, 9999, 9999, 0}, {2, 9998, 4999, 1}, {3, 9999, 1111, 2},
            {3, 6561, 1, 8}, {5, 9375, 3, 5}, {5, 1, 1, 0}, {7, 2401, 1, 4}, {7, 9604, 4, 4}};
        for (int[] t : told) {
            due("pure(" + t[1] + ", 0) by " + t[0], by(t[0], 3).pure(t[1], 0), t[2]);
            due("pure(" + t[1] + ", 1) by " + t[0], by(t[0], 3).pure(t[1], 1), t[3]);
        }
        of("Promise 15", "BAD: v (1 .. 9999);");
        due("pure(1, 0)", by(2, 1).pure(1, 0), 1);
        due("pure(9999, 0)", by(2, 1).pure(9999, 0), 9999);
        unmoved("pure(0, 0)", x -> x.pure(0, 0), BAD);
        unmoved("pure(0, 1)", x -> x.pure(0, 1), BAD);
        for (int v : beyond(9999)) {
            unmoved("pure(" + v + ", 0)", x -> x.pure(v, 0), BAD);
            unmoved("pure(" + v + ", 2)", x -> x.pure(v, 2), BAD);
        }
        of("Promise 15", "NONE: what.");
        due("pure(6, 0)", by(2, 1).pure(6, 0), 3);
        due("pure(6, 1)", by(2, 1).pure(6, 1), 1);
        for (int what : beyond(1)) {
            unmoved("pure(1, " + what + ")", x -> x.pure(1, what), NONE);
            unmoved("pure(9999, " + what + ")", x -> x.pure(9999, what), NONE);
        }
    }

    // ---- rows

    private static void counted() {
        of("Promise 16", "COUNT.");
        // Row 4 by 4: 1 0 2 0 1.
        int[] counts = {2, 2, 1, 0};
        for (int v = 0; v < 4; v++) {
            due("counted(4, " + v + ")", by(2, 2).counted(4, v), counts[v]);
        }
        due("counted(0, 1)", by(2, 2).counted(0, 1), 1);
        due("counted(0, 0)", by(2, 2).counted(0, 0), 0);
        due("counted(127, 1)", by(2, 1).counted(127, 1), 128);
        due("counted(64, 0)", by(2, 1).counted(64, 0), 63);
        due("counted(5, -1)", by(2, 1).counted(5, -1), 0);
        due("counted(5, 2)", by(2, 1).counted(5, 2), 0);
        of("Promise 16", "NONE: row.");
        due("counted(0, 1)", by(2, 1).counted(0, 1), 1);
        due("counted(127, 1)", by(2, 1).counted(127, 1), 128);
        for (int row : beyond(127)) {
            unmoved("counted(" + row + ", 0)", x -> x.counted(row, 0), NONE);
            unmoved("counted(" + row + ", -1)", x -> x.counted(row, -1), NONE);
        }
    }

    private static void row() {
        of("Promise 17", "Of a row how many KINDS (what 0), the USUAL one (1), SUM (2), DEPTH (3).");
        // By 4: row 0 1, row 4 1 0 2 0 1, row 5 1 1 2 2 1 1, row 7 1 3 1 3 3 1 3 1.
        int[][] told = {{0, 1, 1, 1, 0}, {4, 3, 0, 4, 2}, {5, 2, 1, 8, 1}, {7, 2, 1, 16, 0}};
        for (int[] t : told) {
            for (int what = 0; what < 4; what++) {
                due("row(" + t[0] + ", " + what + ")", by(2, 2).row(t[0], what), t[1 + what]);
            }
        }
        due("row(127, 0)", by(7, 4).row(127, 0), 57);
        due("row(127, 2)", by(7, 4).row(127, 2), 142592);
        of("Promise 17", "NONE: row, what.");
        for (int what = 0; what < 4; what++) {
            due("row(0, " + what + ")", by(2, 1).row(0, what), what == 3 ? 0 : 1);
            due("row(127, " + what + ")", by(2, 1).row(127, what), what == 3 ? 0 : what == 2 ? 128 : 1);
        }
        for (int none : beyond(127)) {
            for (int what = 0; what < 4; what++) {
                int w = what;
                unmoved("row(" + none + ", " + what + ")", x -> x.row(none, w), NONE);
            }
        }
        for (int none : beyond(3)) {
            unmoved("row(0, " + none + ")", x -> x.row(0, none), NONE);
            unmoved("row(127, " + none + ")", x -> x.row(127, none), NONE);
        }
    }

    private static void kind() {
        of("Promise 18", "KIND i of a row;");
        // Row 14 by 2401: 1 14 91 364 1001 2002 602 1031 ..
        int[] kinds = {1, 14, 91, 364, 602, 1001, 1031, 2002};
        for (int i = 0; i < 8; i++) {
            due("kind(14, " + i + ")", by(7, 4).kind(14, i), kinds[i]);
        }
        due("kind(0, 0)", by(2, 1).kind(0, 0), 1);
        due("kind(2, 0)", by(2, 1).kind(2, 0), 0);
        of("Promise 18", "-5: there are not as many.");
        due("kind(14, 8)", by(7, 4).kind(14, 8), MISSING);
        due("kind(14, 14)", by(7, 4).kind(14, 14), MISSING);
        due("kind(14, 15)", by(7, 4).kind(14, 15), MISSING);
        due("kind(14, 127)", by(7, 4).kind(14, 127), MISSING);
        due("kind(14, MOST)", by(7, 4).kind(14, MOST), MISSING);
        due("kind(127, 57)", by(7, 4).kind(127, 57), MISSING);
        due("kind(0, 1)", by(2, 1).kind(0, 1), MISSING);
        due("kind(0, MOST)", by(2, 1).kind(0, MOST), MISSING);
        of("Promise 18", "NONE: row, i below 0.");
        due("kind(0, 0)", by(2, 1).kind(0, 0), 1);
        due("kind(127, 0)", by(2, 1).kind(127, 0), 1);
        for (int row : beyond(127)) {
            unmoved("kind(" + row + ", 0)", x -> x.kind(row, 0), NONE);
        }
        for (int i : new int[] {LEAST, LEAST + 1, -100, -2, -1}) {
            unmoved("kind(0, " + i + ")", x -> x.kind(0, i), NONE);
            unmoved("kind(127, " + i + ")", x -> x.kind(127, i), NONE);
        }
    }

    private static void upTo() {
        of("Promise 19", "Of rows 0 .. row: how many are FULL (what 0), the last of them (1), HEAVIEST (2).");
        int[][] told = {{0, 1, 0, 0}, {1, 2, 1, 0}, {2, 2, 1, 2}, {3, 3, 3, 2}, {4, 3, 3, 4}, {6, 3, 3, 4}, {7, 4, 7, 4}, {126, 7, 63, 112}, {127, 8, 127, 112}};
        for (int[] t : told) {
            for (int what = 0; what < 3; what++) {
                due("upTo(" + t[0] + ", " + what + ") by 2", by(2, 1).upTo(t[0], what), t[1 + what]);
            }
        }
        of("Promise 19", "NONE: row, what.");
        for (int what = 0; what < 3; what++) {
            due("upTo(0, " + what + ")", by(7, 4).upTo(0, what), what == 0 ? 1 : 0);
            due("upTo(127, " + what + ")", by(7, 4).upTo(127, what), what == 0 ? 128 : what == 1 ? 127 : 0);
        }
        for (int none : beyond(127)) {
            for (int what = 0; what < 3; what++) {
                int w = what;
                unmoved("upTo(" + none + ", " + what + ")", x -> x.upTo(none, w), NONE);
            }
        }
        for (int none : beyond(2)) {
            unmoved("upTo(0, " + none + ")", x -> x.upTo(0, none), NONE);
            unmoved("upTo(127, " + none + ")", x -> x.upTo(127, none), NONE);
        }
    }

    // ---- patches

    private static void picture() {
        of("Promise 20", "PICTURE: the bits of its row i (0 .. 7).");
        PascalRows x = marking(new PascalRows(), 0, 1);
        int[] rows = {1, 3, 5, 15, 17, 51, 85, 255};
        for (int i = 0; i < 8; i++) {
            due("picture(" + i + ")", x.picture(i), rows[i]);
        }
        x.window(127, 120);
        due("places 120 .. 127 of row 127", x.picture(0), 255);
        x.window(127, 121);
        due("places 121 .. 127 of row 127", x.picture(0), 127);
        x.clear();
        due("no marks", x.picture(0), 0);
        of("Promise 20", "NONE: i.");
        due("picture(0)", marking(new PascalRows(), 0, 1).picture(0), 1);
        due("picture(7)", marking(new PascalRows(), 0, 1).picture(7), 255);
        for (int i : beyond(7)) {
            unmoved("picture(" + i + ")", y -> y.picture(i), NONE);
        }
    }

    private static void like() {
        of("Promise 21", "LIKE (1, 0): the one from row a, place b on, the other from row c, place d on");
        PascalRows x = new PascalRows();
        due("alike", x.like(0, 0, 8, 0, 8), 1);
        due("alike, aside", x.like(0, 0, 8, 8, 8), 1);
        due("unlike", x.like(0, 0, 7, 0, 8), 0);
        due("a counts", x.like(1, 0, 8, 0, 8), 0);
        due("b counts", x.like(0, 1, 8, 0, 8), 0);
        due("c counts", x.like(0, 0, 9, 0, 8), 0);
        due("d counts", x.like(0, 0, 8, 1, 8), 0);
        due("1 0 above 1 1, twice", x.like(0, 0, 4, 4, 2), 1);
        due("two rows alike", x.like(2, 0, 6, 2, 2), 1);
        due("unlike in the third row, at its first place alone", x.like(2, 0, 6, 2, 3), 0);
        due("four places alike", x.like(0, 0, 4, 0, 4), 1);
        due("unlike at the fifth", x.like(0, 0, 4, 0, 5), 0);
        due("a patch and itself", by(7, 4).like(100, 40, 100, 40, 28), 1);
        of("Promise 21", "(a place of a row that isn't there, or a row beyond 127, has REMAINDER 0).");
        due("beyond rows 0 and 3", x.like(0, 90, 3, 127, 32), 1);
        due("row 127 and beyond, row 0", x.like(127, 127, 0, 0, 1), 1);
        due("row 127 and beyond, rows 0 and 1", x.like(127, 127, 0, 0, 2), 0);
        due("row 127 from place 127 on, row 126 from place 126 on", x.like(127, 127, 126, 126, 2), 0);
        due("beyond row 127 places are 0", x.like(127, 127, 127, 127, 32), 1);
        due("row 127's 1, then 0; row 5's 1 0, then 0 1", x.like(127, 127, 5, 1, 2), 0);
        due("row 127 against the 0 beyond row 126", x.like(126, 127, 127, 126, 2), 0);
        due("row 3's place 4, row 2's place 1 by 2", x.like(3, 4, 2, 1, 1), 1);
        due("row 4's place 4, row 2's place 1 by 2", x.like(4, 4, 2, 1, 1), 0);
        of("Promise 21", "NONE: a, b, c, d (0 .. 127 each);");
        due("b and d beyond their rows", x.like(0, 127, 5, 127, 1), 1);
        due("a and c the last rows", x.like(127, 0, 127, 0, 1), 1);
        for (int none : beyond(127)) {
            unmoved("like(" + none + ", 0, 0, 0, 1)", y -> y.like(none, 0, 0, 0, 1), NONE);
            unmoved("like(0, " + none + ", 0, 0, 1)", y -> y.like(0, none, 0, 0, 1), NONE);
            unmoved("like(0, 0, " + none + ", 0, 1)", y -> y.like(0, 0, none, 0, 1), NONE);
            unmoved("like(0, 0, 0, " + none + ", 1)", y -> y.like(0, 0, 0, none, 1), NONE);
            unmoved("like(" + none + ", 0, 0, 0, 0)", y -> y.like(none, 0, 0, 0, 0), NONE);
        }
        due("all 127", x.like(127, 127, 127, 127, 1), 1);
        due("all 0", x.like(0, 0, 0, 0, 1), 1);
        of("Promise 21", "BAD: s.");
        unmoved("like(0, 0, 0, 0, 0)", y -> y.like(0, 0, 0, 0, 0), BAD);
        for (int s : beyond(32)) {
            unmoved("like(0, 0, 0, 0, " + s + ")", y -> y.like(0, 0, 0, 0, s), BAD);
        }
        due("like(0, 0, 32, 0, 32)", x.like(0, 0, 32, 0, 32), 1);
    }

    private static void scaled() {
        of("Promise 22", "SCALED by t (1, 0).");
        // By 2 rows 12 .. 14 and 24 .. 26 begin as rows 0 .. 2.
        int[] threes = {0, 0, 0, 1, 0, 0, 0, 1, 0};
        for (int t = 1; t <= 9; t++) {
            due("scaled(3, " + t + ")", by(2, 1).scaled(3, t), threes[t - 1]);
        }
        due("scaled(8, 1)", by(2, 1).scaled(8, 1), 1);
        due("scaled(7, 1)", by(2, 1).scaled(7, 1), 0);
        due("scaled(8, 9)", by(2, 1).scaled(8, 9), 1);
        due("scaled(1, 9)", by(2, 1).scaled(1, 9), 1);
        due("scaled(32, 1)", by(2, 1).scaled(32, 1), 1);
        due("scaled(32, 9)", by(2, 1).scaled(32, 9), 0);
        due("scaled(9, 1)", by(3, 1).scaled(9, 1), 1);
        due("scaled(9, 1) by 9", by(3, 2).scaled(9, 1), 0);
        due("scaled(7, 9)", by(7, 1).scaled(7, 9), 1);
        of("Promise 22", "BAD: s, t.");
        due("scaled(1, 1)", by(2, 1).scaled(1, 1), 1);
        due("scaled(32, 1)", by(2, 1).scaled(32, 1), 1);
        due("scaled(1, 9)", by(2, 1).scaled(1, 9), 1);
        due("scaled(32, 9)", by(2, 1).scaled(32, 9), 0);
        unmoved("scaled(0, 1)", x -> x.scaled(0, 1), BAD);
        unmoved("scaled(1, 0)", x -> x.scaled(1, 0), BAD);
        for (int s : beyond(32)) {
            unmoved("scaled(" + s + ", 1)", x -> x.scaled(s, 1), BAD);
        }
        for (int t : beyond(9)) {
            unmoved("scaled(1, " + t + ")", x -> x.scaled(1, t), BAD);
            unmoved("scaled(32, " + t + ")", x -> x.scaled(32, t), BAD);
        }
    }

    // ---- seen, odds

    private static void see() {
        of("Promise 23", "What is SEEN comes: how many there are");
        PascalRows x = new PascalRows();
        int[][] seen = {{0, 0, 1}, {127, 127, 2400}, {127, 0, 0}, {0, 0, 1}};
        for (int n = 0; n < 4; n++) {
            due("see " + (n + 1), x.see(seen[n][0], seen[n][1], seen[n][2]), n + 1);
            due("count(0)", x.count(0), n + 1);
        }
        of("Promise 23", "(row -1: none then, 0, whatever the rest is).");
        int[][] rests = {{0, 0}, {LEAST, LEAST}, {MOST, MOST}, {-1, -1}, {128, 2401}};
        for (int[] rest : rests) {
            PascalRows y = brimful();
            due("see(-1, " + rest[0] + ", " + rest[1] + ")", y.see(-1, rest[0], rest[1]), 0);
            due("count(0)", y.count(0), 0);
            due("fits()", y.fits(), 15);
            due("once more", y.see(-1, rest[0], rest[1]), 0);
            due("events stay", y.count(1), 8);
            due("the book stays", y.count(2), 8);
            due("the first that comes then", y.see(0, 0, 1), 1);
        }
        of("Promise 23", "NONE: row, place;");
        due("see(0, 0, 0)", new PascalRows().see(0, 0, 0), 1);
        due("see(127, 127, 0)", new PascalRows().see(127, 127, 0), 1);
        due("see(127, 0, 0)", new PascalRows().see(127, 0, 0), 1);
        for (int row : new int[] {LEAST, -128, -2, 128, 129, MOST}) {
            unmoved("see(" + row + ", 0, 0)", y -> y.see(row, 0, 0), NONE);
            unmoved("see(" + row + ", 0, -1)", y -> y.see(row, 0, -1), NONE);
        }
        for (int row : new int[] {0, 1, 5, 127}) {
            for (int place : beyond(row)) {
                unmoved("see(" + row + ", " + place + ", 0)", y -> y.see(row, place, 0), NONE);
            }
            due("see(" + row + ", " + row + ", 0)", new PascalRows().see(row, row, 0), 1);
        }
        of("Promise 23", "BAD: v (0 .. 2400);");
        due("see(5, 5, 0)", new PascalRows().see(5, 5, 0), 1);
        due("see(5, 5, 2400), whatever M is", new PascalRows().see(5, 5, 2400), 1);
        for (int v : beyond(2400)) {
            unmoved("see(5, 5, " + v + ")", y -> y.see(5, 5, v), BAD);
            unmoved(Sentences::brimful, "see(5, 5, " + v + ")", y -> y.see(5, 5, v), BAD);
        }
        of("Promise 23", "FULL: 4.");
        unmoved(Sentences::brimful, "see(0, 0, 0)", y -> y.see(0, 0, 0), FULL);
        unmoved(Sentences::brimful, "see(127, 127, 2400)", y -> y.see(127, 127, 2400), FULL);
        due("see 5", x.see(0, 0, 1), FULL);
    }

    private static void fits() {
        of("Promise 24", "FITS (bits).");
        // What row and place have by 2, 3, 5, 7: bits 0 .. 3.
        int[][] told = {{4, 2, 0, 3}, {4, 2, 1, 4}, {4, 2, 6, 8}, {3, 1, 0, 2}, {5, 1, 0, 4}, {7, 1, 0, 8}, {2, 1, 0, 1}, {2, 1, 2, 14}, {0, 0, 1, 15},
            {0, 0, 0, 0}, {0, 0, 7, 0}};
        for (int[] t : told) {
            PascalRows x = new PascalRows();
            due("fits() of nothing", x.fits(), 15);
            x.see(t[0], t[1], t[2]);
            due("fits() of " + t[0] + ", " + t[1] + ", " + t[2], x.fits(), t[3]);
            x.see(0, 0, 1);
            due("fits() with what fits all", x.fits(), t[3]);
        }
    }

    private static void odds() {
        of("Promise 25", "ODDS; part 0 above, 1 below the line.");
        PascalRows x = new PascalRows();
        due("four of six", x.odds(5, 0, 1, 0), 2);
        due("four of six", x.odds(5, 0, 1, 1), 3);
        due("all", x.odds(127, 0, 1, 0), 1);
        due("all", x.odds(127, 0, 1, 1), 1);
        due("none", x.odds(127, 0, 0, 0), 0);
        due("none", x.odds(127, 0, 0, 1), 1);
        due("one of one", x.odds(0, 3, 0, 0), 1);
        due("one of one", x.odds(0, 3, 0, 1), 1);
        due("20 of 26", by(5, 4).odds(25, 2, 2, 0), 10);
        due("20 of 26", by(5, 4).odds(25, 2, 2, 1), 13);
        of("Promise 25", "NO: row, kind, part.");
        for (int kind = 0; kind < 5; kind++) {
            due("odds(0, " + kind + ", 0, 1)", x.odds(0, kind, 0, 1), 1);
            due("odds(127, " + kind + ", 9, 0)", x.odds(127, kind, 9, 0), 0);
        }
        for (int none : beyond(127)) {
            unmoved("odds(" + none + ", 0, 0, 0)", y -> y.odds(none, 0, 0, 0), NO);
        }
        for (int none : beyond(4)) {
            unmoved("odds(0, " + none + ", 0, 0)", y -> y.odds(0, none, 0, 0), NO);
        }
        for (int none : beyond(1)) {
            unmoved("odds(0, 0, 0, " + none + ")", y -> y.odds(0, 0, 0, none), NO);
        }
        due("row 127, kind 4, part 1", x.odds(127, 4, 1, 1), 1);
    }

    private static void mean() {
        of("Promise 26", "MEAN; part likewise.");
        due("row 0", by(2, 1).mean(0, 0), 1);
        due("row 0", by(2, 1).mean(0, 1), 1);
        due("8 by 6", by(2, 2).mean(5, 0), 4);
        due("8 by 6", by(2, 2).mean(5, 1), 3);
        due("4 by 5", by(2, 2).mean(4, 0), 4);
        due("4 by 5", by(2, 2).mean(4, 1), 5);
        due("128 by 8", by(7, 4).mean(7, 0), 16);
        due("128 by 8", by(7, 4).mean(7, 1), 1);
        due("142592 by 128", by(7, 4).mean(127, 0), 1114);
        due("142592 by 128", by(7, 4).mean(127, 1), 1);
        of("Promise 26", "NO: row, part.");
        due("mean(0, 0)", by(2, 1).mean(0, 0), 1);
        due("mean(127, 1)", by(2, 1).mean(127, 1), 1);
        for (int none : beyond(127)) {
            unmoved("mean(" + none + ", 0)", x -> x.mean(none, 0), NO);
            unmoved("mean(" + none + ", 1)", x -> x.mean(none, 1), NO);
        }
        for (int none : beyond(1)) {
            unmoved("mean(0, " + none + ")", x -> x.mean(0, none), NO);
        }
    }

    // ---- events, books

    private static void event() {
        of("Promise 27", "A row comes to EVENTS: how many there are");
        PascalRows x = new PascalRows();
        int[][] events = {{0, 0}, {1, 1}, {1, 4}, {2, 0}, {2, 99}, {3, 0}, {3, 5}, {0, 0}};
        for (int n = 0; n < 8; n++) {
            due("event " + (n + 1), x.event(events[n][0], events[n][1]), n + 1);
            due("count(1)", x.count(1), n + 1);
        }
        of("Promise 27", "(what -1: none then, 0, whatever the rest is).");
        for (int rest : new int[] {0, 1, -1, 5, 100, LEAST, MOST}) {
            PascalRows y = brimful();
            due("event(-1, " + rest + ")", y.event(-1, rest), 0);
            due("count(1)", y.count(1), 0);
            due("after(1)", y.after(1), 9);
            due("seen stays", y.count(0), 4);
            due("the book stays", y.count(2), 8);
            due("once more", y.event(-1, rest), 0);
            due("the first that comes then", y.event(1, 1), 1);
            due("after(1)", y.after(1), 3);
        }
        of("Promise 27", "NONE: what (0 .. 3);");
        for (int what = 0; what <= 3; what++) {
            due("event(" + what + ", ..)", new PascalRows().event(what, what == 1 ? 1 : 0), 1);
        }
        for (int what : new int[] {LEAST, -128, -2, 4, 5, 256, MOST}) {
            unmoved("event(" + what + ", 0)", y -> y.event(what, 0), NONE);
            unmoved("event(" + what + ", -1)", y -> y.event(what, -1), NONE);
            unmoved(Sentences::brimful, "event(" + what + ", 0)", y -> y.event(what, 0), NONE);
        }
        of("Promise 27", "BAD: n (0: 0; 1: 1 .. 4; 2: 0 .. 99; 3: 0 .. 5);");
        int[] most = {0, 4, 99, 5};
        for (int what = 0; what < 4; what++) {
            int w = what;
            for (int n : beyond(most[what])) {
                unmoved("event(" + what + ", " + n + ")", y -> y.event(w, n), BAD);
                unmoved(Sentences::brimful, "event(" + what + ", " + n + ")", y -> y.event(w, n), BAD);
            }
            for (int n = what == 1 ? 1 : 0; n <= most[what]; n++) {
                due("event(" + what + ", " + n + ")", new PascalRows().event(what, n), 1);
            }
        }
        unmoved("event(1, 0)", y -> y.event(1, 0), BAD);
        of("Promise 27", "FULL: 8.");
        for (int what = 0; what < 4; what++) {
            int w = what;
            unmoved(Sentences::brimful, "event(" + what + ", " + most[what] + ")", y -> y.event(w, most[w]), FULL);
        }
        due("event 9", x.event(0, 0), FULL);
    }

    private static void after() {
        of("Promise 28", "AFTER: what 0 how many are MARKED, 1 M, 2 how many MARKS.");
        PascalRows x = marking(new PascalRows(), 4, 1, 4, 0, 4, 0);
        // By 2 27 places of rows 0 .. 7 have BITS 1, by 3 33 of them.
        due("no events", x.after(0), 36);
        due("no events", x.after(1), 2);
        due("no events", x.after(2), 3);
        x.event(3, 2);
        x.event(3, 1);
        due("one mark is left", x.after(0), 27);
        due("one mark is left", x.after(2), 1);
        x.event(1, 3);
        due("M", x.after(1), 8);
        x.event(0, 0);
        due("M by 3", x.after(1), 27);
        due("by 3", x.after(0), bitsOfRows(3, 0, 7));
        x.event(2, 2);
        due("rows 2 .. 9", x.after(0), bitsOfRows(3, 2, 9));
        x.event(3, 0);
        due("no marks", x.after(0), 0);
        due("no marks", x.after(2), 0);
        of("Promise 28", "NONE.");
        for (int what = 0; what <= 2; what++) {
            due("after(" + what + ")", new PascalRows().after(what), what == 1 ? 2 : 0);
        }
        for (int what : beyond(2)) {
            unmoved("after(" + what + ")", y -> y.after(what), NONE);
        }
    }

    /** How many of places 0 .. 7 of these rows can't be divided by p: those that BITS tells 1 of. */
    private static int bitsOfRows(int p, int first, int last) {
        int bits = 0;
        for (int i = first; i <= last; i++) {
            for (int k = 0; k <= Math.min(i, 7); k++) {
                bits += remainder(i, k, p) == 0 ? 0 : 1;
            }
        }
        return bits;
    }

    private static void book() {
        of("Promise 29", "A row comes to the BOOK: how many there are");
        PascalRows x = new PascalRows();
        for (int n = 1; n <= 8; n++) {
            due("book " + n, x.book(n % 2 == 0 ? 0 : 127, n % 3 == 0 ? 0 : 2400), n);
            due("count(2)", x.count(2), n);
        }
        of("Promise 29", "(row -1: it is empty then, 0, whatever the rest is).");
        for (int rest : new int[] {0, -1, 2401, LEAST, MOST}) {
            PascalRows y = brimful();
            due("book(-1, " + rest + ")", y.book(-1, rest), 0);
            due("count(2)", y.count(2), 0);
            due("looked()", y.looked(), MISSING);
            due("seen stays", y.count(0), 4);
            due("events stay", y.count(1), 8);
            due("once more", y.book(-1, rest), 0);
            due("the first that comes then", y.book(10, 5), 1);
            due("looked()", y.looked(), 0);
        }
        of("Promise 29", "NONE: row;");
        due("book(0, 0)", new PascalRows().book(0, 0), 1);
        due("book(127, 0)", new PascalRows().book(127, 0), 1);
        for (int row : new int[] {LEAST, -128, -2, 128, 129, MOST}) {
            unmoved("book(" + row + ", 0)", y -> y.book(row, 0), NONE);
            unmoved("book(" + row + ", -1)", y -> y.book(row, -1), NONE);
            unmoved(Sentences::brimful, "book(" + row + ", 0)", y -> y.book(row, 0), NONE);
        }
        of("Promise 29", "BAD: v (0 .. 2400);");
        due("book(127, 0)", new PascalRows().book(127, 0), 1);
        due("book(0, 2400), whatever M is", new PascalRows().book(0, 2400), 1);
        for (int v : beyond(2400)) {
            unmoved("book(127, " + v + ")", y -> y.book(127, v), BAD);
            unmoved(Sentences::brimful, "book(0, " + v + ")", y -> y.book(0, v), BAD);
        }
        of("Promise 29", "FULL: 8.");
        unmoved(Sentences::brimful, "book(0, 0)", y -> y.book(0, 0), FULL);
        unmoved(Sentences::brimful, "book(127, 2400)", y -> y.book(127, 2400), FULL);
        due("book 9", x.book(0, 0), FULL);
    }

    private static void looked() {
        of("Promise 30", "LOOKED at;");
        PascalRows x = by(7, 2);
        x.book(10, 1);
        x.book(11, 11);
        x.book(12, 66 - 49);
        x.book(12, 66);
        x.book(12, 0);
        due("66 is no remainder by 49", x.looked(), 3);
        x.power(3);
        due("by 343 it is, 17 isn't", x.looked(), 2);
        x.prime(2);
        x.power(1);
        due("by 2 11 isn't", x.looked(), 1);
        x.book(-1, 0);
        x.book(127, 5);
        due("the very first", x.looked(), 0);
        PascalRows y = by(3, 1);
        for (int n = 0; n < 7; n++) {
            y.book(10, 1);
        }
        y.book(10, 2);
        due("the last of eight", y.looked(), 7);
        of("Promise 30", "-5.");
        due("an empty book", new PascalRows().looked(), MISSING);
        PascalRows z = by(7, 4);
        for (int row = 5; row < 13; row++) {
            z.book(row, row < 10 ? 0 : row == 10 ? 1 : row == 11 ? 11 : 66);
        }
        due("all of eight are so", z.looked(), MISSING);
    }

    // ---- judging, the image, tapes

    private static void judge() {
        of("Promise 31", "JUDGED, a row from place i of a TAPE on.");
        PascalRows x = by(7, 1);
        fill(x, 3, 1, 9, 1, 4, 6, 4, 1, 1);
        due("row 4 from 1 on", x.judge(4, 3, 1), MISSING);
        due("row 4 from 0 on", x.judge(4, 3, 0), 0);
        due("row 5 from 1 on", x.judge(5, 3, 1), 1);
        due("row 1 from 5 on", x.judge(1, 3, 5), MISSING);
        due("row 2 from 5 on", x.judge(2, 3, 5), 1);
        due("row 7 from 6 on", x.judge(7, 3, 6), 201);
        due("row 0 from 7 on", x.judge(0, 3, 7), 200);
        due("row 0 from -1 on", x.judge(0, 3, -1), 200);
        due("row 0, nothing there", x.judge(0, 2, 0), 200);
        unmoved("judge(3, 1, 0)", y -> y.judge(3, 1, 0), MISSING);
        of("Promise 31", "NONE: row, tape;");
        for (int tape = 0; tape < 6; tape++) {
            due("judge(0, " + tape + ", 0)", new PascalRows().judge(0, tape, 0), 200);
            due("judge(127, " + tape + ", 0)", new PascalRows().judge(127, tape, 0), 200);
        }
        for (int none : beyond(127)) {
            unmoved("judge(" + none + ", 1, 0)", y -> y.judge(none, 1, 0), NONE);
            unmoved("judge(" + none + ", 0, 0)", y -> y.judge(none, 0, 0), NONE);
            unmoved("judge(" + none + ", 5, -1)", y -> y.judge(none, 5, -1), NONE);
        }
        for (int none : beyond(5)) {
            unmoved("judge(0, " + none + ", 0)", y -> y.judge(0, none, 0), NONE);
            unmoved("judge(127, " + none + ", -1)", y -> y.judge(127, none, -1), NONE);
        }
        of("Promise 31", "CAST: it is no row of shorts.");
        for (int tape : new int[] {0, 2, 3, 4}) {
            unmoved("judge(0, " + tape + ", 0)", y -> y.judge(0, tape, 0), CAST);
            unmoved("judge(0, " + tape + ", -1)", y -> y.judge(0, tape, -1), CAST);
            unmoved("judge(127, " + tape + ", 60)", y -> y.judge(127, tape, 60), CAST);
        }
        for (int sort = 0; sort < 5; sort++) {
            x.tape(0, sort, 0);
            due("none of sort " + sort, x.judge(0, 0, 0), sort == 1 ? 200 : CAST);
        }
    }

    private static void image() {
        of("Promise 32", "THE IMAGE is taken: M.");
        for (int p : PRIMES) {
            due("image() by " + p, by(p, 2).image(), p * p);
        }
        PascalRows x = furnished();
        String untouched = examined(furnished());
        due("image()", x.image(), 27);
        x.prime(7);
        x.power(4);
        due("image() anew", x.image(), 2401);
        x.prime(2);
        due("undo(): the later one counts", x.undo(), 2401);
        due("told(0)", x.told(0), 7);
        due("told(3): all else stays", x.told(3), 3);
        PascalRows y = furnished();
        y.undo();
        y.image();
        y.undo();
        check(!examined(y).equals(untouched), "the image of one that is furnished is another");
    }

    private static void undo() {
        of("Promise 33", "All is as THE IMAGE: M.");
        PascalRows x = furnished();
        for (int times = 0; times < 3; times++) {
            due("undo()", x.undo(), 25);
            due("p", x.told(0), 5);
            due("e", x.told(1), 2);
            due("marks", x.told(3), 2);
            due("the first mark's kind", x.markOf(0, 0), 0);
            due("the second mark's kind", x.markOf(1, 0), 2);
            due("the second mark's v", x.markOf(1, 1), 1);
            due("window", 1000 * x.told(4) + x.told(5), 9003);
            due("seen", x.count(0), 1);
            due("fits()", x.fits(), 4 + 8);
            due("events", x.count(1), 1);
            due("after(1)", x.after(1), 25);
            due("the book", x.count(2), 1);
            due("looked()", x.looked(), MISSING);
            x.power(4);
            due("after(1) by e 4", x.after(1), 25);
            due("looked() by e 4", x.looked(), MISSING);
            x.prime(2);
            x.power(1);
            due("looked() by 2", x.looked(), 0);
            x.clear();
            x.mark(3, 9);
            x.window(0, 0);
            x.see(-1, 0, 0);
            x.event(-1, 0);
            x.event(1, 4);
            x.event(1, 4);
            x.book(-1, 0);
            x.book(4, 4);
            x.book(4, 4);
        }
        of("Promise 33", "STATE: there is none.");
        unmoved(PascalRows::new, "undo()", y -> y.undo(), STATE);
        PascalRows y = by(5, 3);
        due("undo()", y.undo(), STATE);
        due("once more", y.undo(), STATE);
        due("p stays", y.told(0), 5);
        due("image()", y.image(), 125);
        due("undo()", y.undo(), 125);
        due("undo() again", y.undo(), 125);
    }

    private static void count() {
        of("Promise 34", "How many: 0 SEEN, 1 EVENTS, 2 of the BOOK, 3 bytes of THE TEXT.");
        int[] most = {4, 8, 8, 100};
        for (int what = 0; what < 4; what++) {
            due("count(" + what + ") of a new one", new PascalRows().count(what), 0);
            due("count(" + what + ") of a full one", brimful().count(what), most[what]);
        }
        PascalRows x = new PascalRows();
        x.see(0, 0, 0);
        x.event(0, 0);
        x.event(0, 0);
        for (int i = 0; i < 3; i++) {
            x.book(0, 0);
        }
        feedAll(x, "abcd");
        for (int what = 0; what < 4; what++) {
            due("count(" + what + ")", x.count(what), what + 1);
        }
        of("Promise 34", "BAD.");
        for (int what : beyond(3)) {
            unmoved("count(" + what + ")", y -> y.count(what), BAD);
        }
    }

    private static void tape() {
        of("Promise 35", "A TAPE becomes a row of n (0 .. 60) of a sort, all 0,");
        for (int sort = 0; sort < 5; sort++) {
            for (int n : new int[] {0, 1, 59, 60}) {
                PascalRows x = new PascalRows();
                long[] ones = new long[60];
                java.util.Arrays.fill(ones, 1);
                fill(x, 2, sort, ones);
                fill(x, 1, sort, ones);
                due("tape(1, " + sort + ", " + n + ")", x.tape(1, sort, n), 1);
                items(x, 1, new long[n]);
                due("the last of the one behind it", x.peek(2, 59), 1);
                due("the first of the one behind it", x.peek(2, 0), 1);
                due("item " + n, x.item(1, n, 1), PLACE);
                due("item 0", x.item(1, 0, 3), n == 0 ? PLACE : 1);
            }
        }
        longerAgain();
        of("Promise 35", "or holds nothing (sort -1: n does not matter): 1.");
        for (int n : new int[] {0, 1, 60, 61, -1, LEAST, MOST}) {
            PascalRows x = furnished();
            due("tape(1, -1, " + n + ")", x.tape(1, -1, n), 1);
            due("item(1, 0, 1)", x.item(1, 0, 1), NOTHING);
            due("peek(1, 0)", x.peek(1, 0), NO);
            due("shift(1, 0, 1, 0, 0)", x.shift(1, 0, 1, 0, 0), NOTHING);
            due("once more", x.tape(1, -1, n), 1);
            due("the one behind it", x.peek(2, 0), 20);
        }
        of("Promise 35", "NONE: tape;");
        due("tape(0, 0, 1)", new PascalRows().tape(0, 0, 1), 1);
        for (int tape : beyond(5)) {
            unmoved("tape(" + tape + ", 0, 1)", x -> x.tape(tape, 0, 1), NONE);
            unmoved("tape(" + tape + ", -1, 1)", x -> x.tape(tape, -1, 1), NONE);
            unmoved("tape(" + tape + ", 5, 61)", x -> x.tape(tape, 5, 61), NONE);
            unmoved("tape(" + tape + ", 0, -1)", x -> x.tape(tape, 0, -1), NONE);
        }
        due("tape(5, 0, 1)", new PascalRows().tape(5, 0, 1), 1);
        of("Promise 35", "BAD: sort, n above 60;");
        for (int sort = -1; sort <= 4; sort++) {
            due("tape(0, " + sort + ", 60)", new PascalRows().tape(0, sort, 60), 1);
        }
        for (int sort : new int[] {LEAST, -128, -2, 5, 6, 256, MOST}) {
            unmoved("tape(0, " + sort + ", 1)", x -> x.tape(0, sort, 1), BAD);
            unmoved("tape(0, " + sort + ", -1)", x -> x.tape(0, sort, -1), BAD);
        }
        for (int n : new int[] {61, 62, 120, 65536, MOST}) {
            for (int sort = 0; sort < 5; sort++) {
                int s = sort;
                unmoved("tape(0, " + sort + ", " + n + ")", x -> x.tape(0, s, n), BAD);
            }
        }
        of("Promise 35", "SIZE.");
        due("tape(0, 0, 0)", new PascalRows().tape(0, 0, 0), 1);
        for (int n : new int[] {LEAST, LEAST + 1, -60, -2, -1}) {
            for (int sort = 0; sort < 5; sort++) {
                int s = sort;
                unmoved("tape(0, " + sort + ", " + n + ")", x -> x.tape(0, s, n), SIZE);
            }
        }
    }

    /** A row that was there ahead of a shorter one must not be seen again. */
    private static void longerAgain() {
        PascalRows x = new PascalRows();
        fill(x, 0, 3, 1, 2, 3, 4);
        x.tape(0, 3, 1);
        x.tape(0, 3, 4);
        items(x, 0, 0, 0, 0, 0);
        fill(x, 0, 3, 1, 2, 3, 4);
        x.tape(0, -1, 0);
        x.tape(0, 2, 3);
        items(x, 0, 0, 0, 0);
    }

    private static void item() {
        of("Promise 36", "Item i of a TAPE becomes v (its lowest bits, as many as an item has; booleans: whether v is not 0): 1.");
        long[] given = {0, 1, -1, 127, 128, 255, 256, -128, -129, 32767, 32768, 65535, 65536, -32768, -32769, 2147483647L, 2147483648L, 4294967295L,
            4294967296L, -2147483648L, -2147483649L, 0x123456789abcdef0L, 0xfedcba9876543210L, Long.MAX_VALUE, Long.MIN_VALUE};
        for (long v : given) {
            PascalRows x = new PascalRows();
            long[] due = {(byte) v, (short) v, (int) v, v, v == 0 ? 0 : 1};
            for (int sort = 0; sort < 5; sort++) {
                fill(x, sort, sort, 1, 1, 1);
                due("item(" + sort + ", 1, " + v + ")", x.item(sort, 1, v), 1);
                items(x, sort, 1, due[sort], 1);
            }
        }
        PascalRows x = furnished();
        due("item(1, 0, -2)", x.item(1, 0, -2), 1);
        due("item(1, 3, -3)", x.item(1, 3, -3), 1);
        items(x, 1, -2, 3, 3, -3);
        items(x, 0, 10, 11, 12);
        items(x, 2, 20, 21, 22, 23);
        of("Promise 36", "NONE;");
        due("item(0, 0, 1)", furnished().item(0, 0, 1), 1);
        due("item(5, 0, 1)", furnished().item(5, 0, 1), NOTHING);
        for (int tape : beyond(5)) {
            unmoved("item(" + tape + ", 0, 1)", y -> y.item(tape, 0, 1), NONE);
            unmoved("item(" + tape + ", -1, 1)", y -> y.item(tape, -1, 1), NONE);
        }
        of("Promise 36", "NOTHING;");
        for (int i : new int[] {LEAST, -1, 0, 1, 60, MOST}) {
            unmoved("item(5, " + i + ", 1)", y -> y.item(5, i, 1), NOTHING);
        }
        of("Promise 36", "PLACE.");
        int[] lengths = {3, 4, 4, 2, 3};
        for (int tape = 0; tape < 5; tape++) {
            int t = tape;
            for (int i : beyond(lengths[tape] - 1)) {
                unmoved("item(" + tape + ", " + i + ", 7)", y -> y.item(t, i, 7), PLACE);
            }
        }
        PascalRows y = new PascalRows();
        y.tape(0, 1, 0);
        due("item(0, 0, 1) of none", y.item(0, 0, 1), PLACE);
        y.tape(0, 1, 60);
        due("item(0, 59, 1)", y.item(0, 59, 1), 1);
        due("item(0, 60, 1)", y.item(0, 60, 1), PLACE);
    }

    private static void peek() {
        of("Promise 37", "Item i of a TAPE.");
        PascalRows x = furnished();
        items(x, 0, 10, 11, 12);
        items(x, 1, 1, 3, 3, 1);
        items(x, 2, 20, 21, 22, 23);
        items(x, 3, 30, 31);
        items(x, 4, 1, 0, 1);
        x.item(3, 0, Long.MAX_VALUE);
        items(x, 3, Long.MAX_VALUE, 31);
        of("Promise 37", "NO: no such TAPE, nothing there, no such place.");
        due("peek(0, 0)", furnished().peek(0, 0), 10);
        due("peek(0, 2)", furnished().peek(0, 2), 12);
        for (int tape : beyond(5)) {
            unmoved("peek(" + tape + ", 0)", y -> y.peek(tape, 0), NO);
        }
        for (int i : new int[] {LEAST, -1, 0, 1, MOST}) {
            unmoved("peek(5, " + i + ")", y -> y.peek(5, i), NO);
        }
        int[] lengths = {3, 4, 4, 2, 3};
        for (int tape = 0; tape < 5; tape++) {
            int t = tape;
            for (int i : beyond(lengths[tape] - 1)) {
                unmoved("peek(" + tape + ", " + i + ")", y -> y.peek(t, i), NO);
            }
        }
        PascalRows y = new PascalRows();
        y.tape(0, 3, 0);
        due("peek(0, 0) of none", y.peek(0, 0), NO);
    }

    private static void shift() {
        of("Promise 38", "n items of a TAPE from i on come to another one (or the same) from j on, as they all were before: n.");
        for (int sort = 0; sort < 4; sort++) {
            PascalRows x = new PascalRows();
            fill(x, 0, sort, 10, 11, 12, 13, 14);
            fill(x, 5, sort, 20, 21, 22, 23);
            due("two", x.shift(0, 3, 5, 1, 2), 2);
            items(x, 0, 10, 11, 12, 13, 14);
            items(x, 5, 20, 13, 14, 23);
            due("one on in the same", x.shift(0, 0, 0, 1, 4), 4);
            items(x, 0, 10, 10, 11, 12, 13);
            due("one back in the same", x.shift(0, 1, 0, 0, 4), 4);
            items(x, 0, 10, 11, 12, 13, 13);
            due("two on in the same", x.shift(0, 0, 0, 2, 3), 3);
            items(x, 0, 10, 11, 10, 11, 12);
            due("onto itself", x.shift(0, 0, 0, 0, 5), 5);
            items(x, 0, 10, 11, 10, 11, 12);
            due("all of it", x.shift(5, 0, 0, 1, 4), 4);
            items(x, 0, 10, 20, 13, 14, 23);
            due("none", x.shift(0, 0, 5, 0, 0), 0);
            due("none, at both ends", x.shift(0, 5, 5, 4, 0), 0);
            items(x, 5, 20, 13, 14, 23);
        }
        booleansAndLong();
        of("Promise 38", "NONE: tapes;");
        due("shift(0, 0, 0, 1, 1)", furnished().shift(0, 0, 0, 1, 1), 1);
        due("shift(5, 0, 5, 0, 1)", furnished().shift(5, 0, 5, 0, 1), NOTHING);
        for (int none : beyond(5)) {
            unmoved("shift(" + none + ", 0, 0, 0, 1)", x -> x.shift(none, 0, 0, 0, 1), NONE);
            unmoved("shift(0, 0, " + none + ", 0, 1)", x -> x.shift(0, 0, none, 0, 1), NONE);
            unmoved("shift(5, 0, " + none + ", 0, -1)", x -> x.shift(5, 0, none, 0, -1), NONE);
        }
        of("Promise 38", "NOTHING;");
        unmoved("shift(5, 0, 5, 0, 0)", x -> x.shift(5, 0, 5, 0, 0), NOTHING);
        for (int tape = 0; tape < 5; tape++) {
            int t = tape;
            unmoved("shift(5, 0, " + tape + ", 0, 1)", x -> x.shift(5, 0, t, 0, 1), NOTHING);
            unmoved("shift(" + tape + ", 0, 5, 0, 1)", x -> x.shift(t, 0, 5, 0, 1), NOTHING);
            unmoved("shift(" + tape + ", -1, 5, 0, -1)", x -> x.shift(t, -1, 5, 0, -1), NOTHING);
        }
        of("Promise 38", "CAST: of unlike sorts;");
        for (int tape = 0; tape < 5; tape++) {
            for (int other = 0; other < 5; other++) {
                int t = tape;
                int o = other;
                unmoved("shift(" + tape + ", 0, " + other + ", 0, 0)", x -> x.shift(t, 0, o, 0, 0), tape == other ? 0 : CAST);
                unmoved("shift(" + tape + ", 0, " + other + ", 0, -1)", x -> x.shift(t, 0, o, 0, -1), tape == other ? PLACE : CAST);
            }
        }
        shiftPlaces();
    }

    private static void booleansAndLong() {
        PascalRows x = new PascalRows();
        fill(x, 0, 4, 1, 0, 1, 1);
        due("booleans", x.shift(0, 0, 0, 1, 3), 3);
        items(x, 0, 1, 1, 0, 1);
        x.tape(4, 2, 60);
        x.tape(5, 2, 60);
        x.item(4, 0, 1);
        x.item(4, 59, 2);
        due("60", x.shift(4, 0, 5, 0, 60), 60);
        due("the first", x.peek(5, 0), 1);
        due("the last", x.peek(5, 59), 2);
        x.item(5, 0, 3);
        x.item(5, 59, 4);
        due("60 back", x.shift(5, 0, 4, 0, 60), 60);
        due("the first", x.peek(4, 0), 3);
        due("the last", x.peek(4, 59), 4);
        due("the last onto the first", x.shift(5, 59, 4, 0, 1), 1);
        due("the first", x.peek(4, 0), 4);
        due("the first onto the last", x.shift(4, 1, 5, 59, 1), 1);
        due("the last", x.peek(5, 59), 0);
    }

    private static void shiftPlaces() {
        of("Promise 38", "PLACE: n, i or j is below 0, or beyond either's end.");
        // TAPES 1 and 5 are shorts, 4 and 2 long.
        Maker two = () -> {
            PascalRows x = furnished();
            fill(x, 5, 1, 50, 51);
            return x;
        };
        for (int below : new int[] {LEAST, LEAST + 1, -2, -1}) {
            unmoved(two, "shift(1, " + below + ", 5, 0, 1)", x -> x.shift(1, below, 5, 0, 1), PLACE);
            unmoved(two, "shift(1, 0, 5, " + below + ", 1)", x -> x.shift(1, 0, 5, below, 1), PLACE);
            unmoved(two, "shift(1, 0, 5, 0, " + below + ")", x -> x.shift(1, 0, 5, 0, below), PLACE);
            unmoved(two, "shift(1, " + below + ", 5, 0, 0)", x -> x.shift(1, below, 5, 0, 0), PLACE);
            unmoved(two, "shift(1, 0, 5, " + below + ", 0)", x -> x.shift(1, 0, 5, below, 0), PLACE);
            unmoved(two, "shift(1, 4, 5, 2, " + below + ")", x -> x.shift(1, 4, 5, 2, below), PLACE);
        }
        for (int n = 0; n <= 5; n++) {
            for (int i = 0; i <= 5; i++) {
                for (int j = 0; j <= 3; j++) {
                    int want = i + n <= 4 && j + n <= 2 ? n : PLACE;
                    due("shift(1, " + i + ", 5, " + j + ", " + n + ")", two.make().shift(1, i, 5, j, n), want);
                    due("shift(5, " + j + ", 1, " + i + ", " + n + ")", two.make().shift(5, j, 1, i, n), want);
                }
            }
        }
        for (int far : new int[] {60, 61, 65536, MOST - 1, MOST}) {
            unmoved(two, "shift(1, " + far + ", 5, 0, 1)", x -> x.shift(1, far, 5, 0, 1), PLACE);
            unmoved(two, "shift(1, 0, 5, " + far + ", 1)", x -> x.shift(1, 0, 5, far, 1), PLACE);
            unmoved(two, "shift(1, 1, 5, 1, " + far + ")", x -> x.shift(1, 1, 5, 1, far), PLACE);
            unmoved(two, "shift(1, " + far + ", 5, " + far + ", " + far + ")", x -> x.shift(1, far, 5, far, far), PLACE);
        }
    }
}
