import java.util.TreeSet;

/** The sentences of the terms (sections 1, 2 and 3, "Answers", "In doubt" and what follows), each by a test of its own. */
public final class TermSentencesTest extends Sentences {
    private static final int[][] MODULI = {{2, 4, 8, 16}, {3, 9, 27, 81}, {5, 25, 125, 625}, {7, 49, 343, 2401}};
    private static final String TWELVE = "x;x;x;x;x;x;x;x;x;x;x;x";
    /** Eleven CLAUSES and the ; behind them: 99 bytes. */
    private static final String LONG = "w001,002;".repeat(11);

    public static void main(String[] args) {
        begin();
        whatItIs();
        triangle();
        digits();
        rules();
        marks();
        text();
        faults();
        theWindow();
        asked();
        rowsTold();
        patches();
        seenAndOdds();
        events();
        bookAndImage();
        tapes();
        judged();
        refusals();
        answers();
        inDoubt();
        for (String part : new String[] {"1", "2", "3", "Answers:", "In doubt.", "The constants:"}) {
            everySentenceIsTold(part);
        }
        end("all sentences of the terms hold");
    }

    private static void whatItIs() {
        of("What it is", "An object is used for at most 512 calls after it has been made; what later calls answer is free.");
        PascalRows x = new PascalRows();
        for (int call = 1; call <= 511; call++) {
            due("call " + call, x.prime(call % 2 == 1 ? 3 : 2), call % 2 == 1 ? 2 : 3);
        }
        due("call 512", x.at(3, 1), 0);
        lastCalls();
    }

    /** That calls 511 and 512 answer as the same calls of an object that has been asked less. */
    private static void lastCalls() {
        Call[] changes = {x -> x.prime(2), x -> x.power(1), x -> x.mark(1, 7), x -> x.clear(), x -> x.window(1, 1), x -> x.feed(';'), x -> x.read(),
            x -> x.see(2, 1, 2), x -> x.see(-1, 0, 0), x -> x.event(2, 40), x -> x.event(-1, 0), x -> x.book(7, 5), x -> x.book(-1, 0), x -> x.image(),
            x -> x.undo(), x -> x.tape(1, 1, 5), x -> x.tape(1, -1, 0), x -> x.item(1, 1, 9), x -> x.shift(1, 0, 1, 1, 2)};
        Call[] told = {x -> x.told(0), x -> x.told(1), x -> x.told(2), x -> x.told(3), x -> x.told(6), x -> x.markOf(0, 0), x -> x.markOf(3, 1),
            x -> x.at(60, 30), x -> x.rule(0, 60, 30), x -> x.rule(1, 60, 4), x -> x.rule(2, 60, 31), x -> x.rule(3, 60, 31), x -> x.rule(4, 60, 31),
            x -> x.marked(60, 30), x -> x.digit(9720, 2), x -> x.pure(9720, 0), x -> x.counted(60, 0), x -> x.row(60, 0), x -> x.row(60, 1), x -> x.row(60, 2),
            x -> x.row(60, 3), x -> x.kind(60, 2), x -> x.upTo(60, 0), x -> x.upTo(60, 1), x -> x.upTo(60, 2), x -> x.picture(3), x -> x.like(0, 0, 27, 0, 27),
            x -> x.scaled(8, 3), x -> x.fits(), x -> x.odds(60, 2, 1, 0), x -> x.mean(60, 1), x -> x.after(0), x -> x.after(1), x -> x.after(2), x -> x.looked(),
            x -> x.judge(3, 1, 0), x -> x.count(0), x -> x.count(1), x -> x.count(2), x -> x.count(3), x -> x.peek(1, 1), x -> x.window(0, 0), x -> x.clear(),
            x -> x.prime(3), x -> x.power(4), x -> x.mark(4, 1), x -> x.feed('x'), x -> x.read(), x -> x.see(3, 1, 3), x -> x.event(1, 3), x -> x.book(12, 0),
            x -> x.image(), x -> x.undo(), x -> x.tape(2, 0, 60), x -> x.item(1, 3, 1), x -> x.shift(1, 0, 1, 2, 2)};
        for (int i = 0; i < changes.length; i++) {
            for (int j = 0; j < told.length; j++) {
                PascalRows early = furnished();
                PascalRows late = askedOften();
                due("call 511, change " + i, changes[i].on(late), changes[i].on(early));
                due("call 512, " + j + " behind change " + i, told[j].on(late), told[j].on(early));
            }
        }
    }

    /** As furnished(), but asked 510 times by now; what is asked or refused changes nothing. */
    private static PascalRows askedOften() {
        Call[] idle = {x -> x.told(6), x -> x.after(0), x -> x.fits(), x -> x.peek(1, 3), x -> x.mark(5, 0), x -> x.see(128, 0, 0), x -> x.item(5, 0, 1)};
        PascalRows x = furnished();
        for (int call = FURNISHED_BY + 1; call <= 510; call++) {
            idle[call % idle.length].on(x);
        }
        return x;
    }

    // ---- 1: the triangle

    private static void triangle() {
        primeAndPower();
        rowsAndPlaces();
        ends();
        together();
        remainders();
        noPlace();
    }

    private static void primeAndPower() {
        of("1", "THE PRIME p (2, 3, 5, 7; 2 at first) and POWER e (1 .. 4; 1 at first);");
        due("told(0) at first", new PascalRows().told(0), 2);
        due("told(1) at first", new PascalRows().told(1), 1);
        for (int v = -8; v <= 64; v++) {
            boolean isPrime = v == 2 || v == 3 || v == 5 || v == 7;
            due("prime(" + v + ")", new PascalRows().prime(v), isPrime ? 2 : BAD);
            due("power(" + v + ")", new PascalRows().power(v), v >= 1 && v <= 4 ? 1 : BAD);
        }
        of("1", "M is p to the power of e.");
        for (int i = 0; i < 4; i++) {
            for (int e = 1; e <= 4; e++) {
                due("told(2) by " + PRIMES[i] + ", " + e, by(PRIMES[i], e).told(2), MODULI[i][e - 1]);
            }
        }
    }

    private static void rowsAndPlaces() {
        of("1", "THE TRIANGLE: rows 0, 1, .. 127; row i has places 0 .. i;");
        PascalRows x = new PascalRows();
        due("row -1", x.at(-1, 0), NONE);
        due("row 0", x.at(0, 0), 1);
        due("row 127", x.at(127, 0), 1);
        due("row 128", x.at(128, 0), NONE);
        for (int i = 0; i < 128; i++) {
            PascalRows y = new PascalRows();
            due("place -1 of row " + i, y.marked(i, -1), NONE);
            due("place 0 of row " + i, y.marked(i, 0), 0);
            due("its last place", y.marked(i, i), 0);
            due("behind it", y.marked(i, i + 1), NONE);
            due("so many places has row " + i, y.counted(i, 0) + y.counted(i, 1), i + 1);
        }
    }

    private static void ends() {
        of("1", "at places 0 and i stands 1,");
        for (int p : PRIMES) {
            for (int i = 0; i < 128; i++) {
                PascalRows x = by(p, 4);
                due("at(" + i + ", 0) by " + p, x.at(i, 0), 1);
                due("at(" + i + ", " + i + ") by " + p, x.at(i, i), 1);
            }
        }
    }

    private static void together() {
        of("1", "at any other place k what stands in row i - 1 at k - 1 and at k, together.");
        for (int p : PRIMES) {
            for (int i = 2; i < 128; i++) {
                PascalRows x = by(p, 4);
                int modulus = x.told(2);
                for (int k = 1; k < i; k++) {
                    due("at(" + i + ", " + k + ") by " + p, x.at(i, k), (x.at(i - 1, k - 1) + x.at(i - 1, k)) % modulus);
                }
            }
        }
        PascalRows x = by(7, 4);
        due("at(2, 1)", x.at(2, 1), 2);
        due("at(4, 2)", x.at(4, 2), 6);
        due("at(12, 6)", x.at(12, 6), 924);
    }

    /** Row 127 has numbers of 123 bits: none may have been wrapped around on the way. */
    private static void remainders() {
        of("1", "REMAINDER of a place: what stands there, modulo M.");
        for (int j = 0; j < 4; j++) {
            for (int e = 1; e <= 4; e++) {
                for (int i = 0; i < 128; i++) {
                    PascalRows x = by(PRIMES[j], e);
                    for (int k = 0; k <= i; k++) {
                        due("at(" + i + ", " + k + ") by " + PRIMES[j] + ", " + e, x.at(i, k), remainder(i, k, MODULI[j][e - 1]));
                    }
                }
            }
        }
        PascalRows x = by(5, 3);
        due("M less 1", x.at(124, 1), 124);
        due("M itself", x.at(125, 1), 0);
        due("M and 1 more", x.at(126, 1), 1);
        due("the greatest, 70", x.at(8, 4), 70);
        x.power(2);
        due("70 by 25", x.at(8, 4), 20);
        x.power(1);
        due("70 by 5", x.at(8, 4), 0);
    }

    private static void noPlace() {
        of("1", "(A place of a row that isn't 0 .. i has REMAINDER 0.)");
        PascalRows x = by(7, 4);
        for (int i : new int[] {0, 1, 2, 9, 10, 126, 127}) {
            due("at(" + i + ", -1)", x.at(i, -1), 0);
            due("at(" + i + ", " + i + ")", x.at(i, i), 1);
            due("at(" + i + ", " + (i + 1) + ")", x.at(i, i + 1), 0);
            due("at(" + i + ", -2)", x.at(i, -2), 0);
            due("at(" + i + ", 128)", x.at(i, 128), 0);
            due("at(" + i + ", LEAST)", x.at(i, LEAST), 0);
            due("at(" + i + ", MOST)", x.at(i, MOST), 0);
        }
    }

    // ---- 1: digits, carries, pure numbers

    private static void digits() {
        of("1", "DIGITS of a whole number (0 or more) by p: it is the sum of its DIGITS d0, d1, .., each 0 .. p - 1, "
            + "times p to the power of 0, 1, ..;");
        for (int p : PRIMES) {
            for (int v : new int[] {0, 1, 2, 3, 4, 6, 7, 8, 23, 48, 49, 50, 127, 624, 625, 2400, 2401, 4096, 6560, 8191, 9998, 9999}) {
                PascalRows x = by(p, 2);
                int sum = 0;
                int times = 1;
                for (int i = 0; i < x.digit(v, -1); i++) {
                    int d = x.digit(v, i);
                    check(d >= 0 && d < p, "digit " + i + " of " + v + " is below " + p + ": " + d);
                    sum += d * times;
                    times *= p;
                }
                due("the digits of " + v + " by " + p + ", together", sum, v);
            }
        }
        of("1", "as few as can be (of 0 there is just d0, 0).");
        for (int p : PRIMES) {
            PascalRows x = by(p, 1);
            due("of 0 there are", x.digit(0, -1), 1);
            due("d0 of 0", x.digit(0, 0), 0);
            due("d1 of 0", x.digit(0, 1), MISSING);
            int many = 1;
            for (int power = p; power <= 9999; power *= p) {
                due("of " + (power - 1) + " by " + p, x.digit(power - 1, -1), many);
                due("the one behind them", x.digit(power - 1, many), MISSING);
                many++;
                due("of " + power + " by " + p, x.digit(power, -1), many);
                due("its last one", x.digit(power, many - 1), 1);
            }
        }
        carries();
        pureNumbers();
    }

    private static void carries() {
        of("1", "CARRIES of a row i and a place k: as k and i - k are added up by DIGITS, from d0 on: "
            + "how many times what comes together (with 1, if there was one ahead) is p or more.");
        // p, row, place, carries
        int[][] told = {{2, 0, 0, 0}, {2, 1, 1, 0}, {2, 2, 1, 1}, {2, 4, 1, 2}, {2, 4, 2, 1}, {2, 6, 3, 2}, {2, 64, 1, 6},
            {2, 64, 32, 1}, {2, 64, 63, 6}, {2, 127, 85, 0}, {2, 126, 63, 6}, {3, 2, 1, 0}, {3, 3, 1, 1}, {3, 6, 2, 1}, {3, 9, 1, 2},
            {3, 9, 3, 1}, {3, 81, 1, 4}, {3, 81, 27, 1}, {3, 82, 1, 0}, {3, 82, 2, 4}, {5, 4, 2, 0}, {5, 5, 1, 1}, {5, 5, 0, 0},
            {5, 25, 1, 2}, {5, 30, 10, 1}, {5, 125, 1, 3}, {5, 125, 25, 1}, {7, 6, 3, 0}, {7, 7, 3, 1}, {7, 49, 1, 2}, {7, 98, 49, 0}};
        for (int[] t : told) {
            due("rule(2, " + t[1] + ", " + t[2] + ") by " + t[0], by(t[0], 1).rule(2, t[1], t[2]), t[3]);
        }
    }

    private static void pureNumbers() {
        of("1", "PURE of a number above 0: it by p, as often as it can be divided by p.");
        int[][] told = {{2, 1, 1}, {2, 2, 1}, {2, 12, 3}, {2, 8192, 1}, {2, 9999, 9999}, {3, 12, 4}, {3, 6561, 1}, {3, 9999, 1111},
            {5, 3125, 1}, {5, 9375, 3}, {5, 24, 24}, {7, 2401, 1}, {7, 9604, 4}, {7, 9999, 9999}};
        for (int[] t : told) {
            due("pure(" + t[1] + ", 0) by " + t[0], by(t[0], 3).pure(t[1], 0), t[2]);
        }
        due("of 0 there is none", new PascalRows().pure(0, 0), BAD);
    }

    // ---- 1: rules

    private static void rules() {
        direct();
        lucas();
        of("1", "2 KUMMER: CARRIES.");
        due("20, 7 by 3 has one", by(3, 4).rule(2, 20, 7), 1);
        due("80, 26 by 3 has none", by(3, 4).rule(2, 80, 26), 0);
        due("127, 63 by 7 has none", by(7, 1).rule(2, 127, 63), 0);
        due("126, 63 by 2 has six", by(2, 1).rule(2, 126, 63), 6);
        legendre();
        bits();
    }

    private static void direct() {
        of("1", "A RULE tells a number of a row i and a place k (0 .. i), by a KIND: 0 DIRECT: REMAINDER.");
        for (int i : new int[] {0, 1, 8, 126, 127}) {
            PascalRows x = by(3, 4);
            for (int k = 0; k <= i; k++) {
                due("rule(0, " + i + ", " + k + ")", x.rule(0, i, k), remainder(i, k, 81));
            }
            for (int kind = 0; kind < 5; kind++) {
                due("ahead of place 0", x.rule(kind, i, -1), NONE);
                due("behind place " + i, x.rule(kind, i, i + 1), NONE);
            }
        }
    }

    private static void lucas() {
        of("1", "1 LUCAS: over all DIGITS of i and k (those that aren't there are 0) the numbers of THE TRIANGLE "
            + "in row (DIGIT of i) at place (DIGIT of k)");
        // By 3 20 is 202 and 9 is 100; by 5 24 is 44; by 7 127 is 241.
        due("20, 2: k has one digit", by(3, 1).rule(1, 20, 2), 1);
        due("20, 18", by(3, 1).rule(1, 20, 18), 1);
        due("20, 10: 2 over 1, 0 over 0, 2 over 1", by(3, 1).rule(1, 20, 10), 1);
        due("20, 11: 2 over 2, 0 over 0, 2 over 1", by(3, 1).rule(1, 20, 11), 2);
        due("9, 9", by(3, 1).rule(1, 9, 9), 1);
        due("8, 1", by(3, 1).rule(1, 8, 1), 2);
        due("0, 0", by(7, 1).rule(1, 0, 0), 1);
        due("24, 12 is 6 times 6", by(5, 1).rule(1, 24, 12), 1);
        due("127, 65 is 122: 2 over 1, 4 over 2, 1 over 2", by(7, 1).rule(1, 127, 65), 0);
        due("127, 64 is 121: 2 over 1, 4 over 2, 1 over 1", by(7, 1).rule(1, 127, 64), 12 % 7);
        of("1", "(0, if that is more), multiplied, modulo p.");
        due("20, 3 by 5: 0 over 3", by(5, 1).rule(1, 20, 3), 0);
        due("9, 1 by 3: 0 over 1", by(3, 1).rule(1, 9, 1), 0);
        due("8, 6 by 7: 1 over 6", by(7, 1).rule(1, 8, 6), 0);
        due("8, 7 by 7: 1 over 0, 1 over 1", by(7, 1).rule(1, 8, 7), 1);
        for (int e = 1; e <= 4; e++) {
            due("6, 3 by 7 is 20, whatever e is", by(7, e).rule(1, 6, 3), 6);
            due("48, 24 by 7 is 400, whatever e is", by(7, e).rule(1, 48, 24), 1);
            due("4, 2 by 5 is 6, whatever e is", by(5, e).rule(1, 4, 2), 1);
            due("2, 1 by 2 is 0, whatever e is", by(2, e).rule(1, 2, 1), 0);
        }
        for (int p : PRIMES) {
            for (int i = 0; i < 128; i++) {
                PascalRows x = by(p, 2);
                for (int k = 0; k <= i; k++) {
                    due("rule(1, " + i + ", " + k + ") by " + p + " as Lucas has shown", x.rule(1, i, k), remainder(i, k, p));
                }
            }
        }
    }

    private static void legendre() {
        of("1", "3 LEGENDRE: for t of p, p p, p p p, .. up to i: i by t, cut, less k by t, cut, less (i - k) by t, cut; all these together.");
        // p, row, place, told: with t above i, with t just i, with several t.
        int[][] told = {{2, 0, 0, 0}, {2, 1, 0, 0}, {2, 2, 1, 1}, {2, 2, 0, 0}, {2, 3, 1, 0}, {2, 4, 1, 2}, {2, 4, 2, 1}, {2, 64, 1, 6},
            {2, 64, 64, 0}, {2, 127, 63, 0}, {2, 126, 63, 6}, {3, 2, 1, 0}, {3, 3, 1, 1}, {3, 5, 2, 0}, {3, 27, 1, 3}, {3, 26, 13, 0},
            {5, 24, 7, 0}, {5, 25, 1, 2}, {5, 26, 1, 0}, {5, 124, 60, 0}, {5, 125, 1, 3}, {5, 125, 25, 1}, {7, 48, 1, 0}, {7, 49, 1, 2},
            {7, 49, 7, 1}, {7, 50, 2, 2}};
        for (int[] t : told) {
            due("rule(3, " + t[1] + ", " + t[2] + ") by " + t[0], by(t[0], 1).rule(3, t[1], t[2]), t[3]);
        }
    }

    private static void bits() {
        of("1", "4 BITS: 1, if each DIGIT of k is no more than that of i at its place, else 0.");
        // p, row, place, told: digits alike, one more at either end, digits that one of the two hasn't.
        int[][] told = {{2, 0, 0, 1}, {2, 1, 0, 1}, {2, 1, 1, 1}, {2, 2, 1, 0}, {2, 127, 85, 1}, {2, 126, 1, 0}, {2, 64, 32, 0},
            {2, 64, 64, 1}, {3, 4, 4, 1}, {3, 4, 3, 1}, {3, 4, 2, 0}, {3, 5, 2, 1}, {3, 9, 8, 0}, {3, 9, 3, 0}, {3, 20, 18, 1}, {3, 20, 3, 0},
            {5, 20, 3, 0}, {5, 20, 5, 1}, {5, 24, 12, 1}, {7, 127, 65, 0}, {7, 127, 64, 1}};
        for (int[] t : told) {
            due("rule(4, " + t[1] + ", " + t[2] + ") by " + t[0], by(t[0], 2).rule(4, t[1], t[2]), t[3]);
        }
    }

    // ---- 1: marks

    private static void marks() {
        of("1", "MARKS: up to 6, each a RULE's KIND and a number v:");
        PascalRows x = new PascalRows();
        for (int n = 1; n <= 6; n++) {
            due("mark " + n, x.mark(n % 5, 7 * n), n);
        }
        due("mark 7", x.mark(0, 0), FULL);
        for (int n = 1; n <= 6; n++) {
            due("its kind", x.markOf(n - 1, 0), n % 5);
            due("its v", x.markOf(n - 1, 1), 7 * n);
        }
        of("1", "a place is MARKED by one, if that RULE tells v of it.");
        // Row 6 by 4: 1 2 3 0 3 2 1; kind, v, the places of row 6 that it marks, as bits.
        int[][] told = {{0, 1, 65}, {0, 2, 34}, {0, 3, 20}, {0, 0, 8}, {0, 4, 0}, {1, 1, 85}, {1, 0, 42}, {2, 0, 85}, {2, 1, 34}, {2, 2, 8},
            {2, 3, 0}, {3, 0, 85}, {3, 1, 34}, {3, 2, 8}, {4, 1, 85}, {4, 0, 42}, {4, 2, 0}};
        for (int[] t : told) {
            PascalRows y = marking(by(2, 2), t[0], t[1]);
            for (int k = 0; k <= 6; k++) {
                due("marked(6, " + k + ") by " + t[0] + ", " + t[1], y.marked(6, k), t[2] >> k & 1);
            }
        }
        of("1", "A place is MARKED, if it is by one MARK at least.");
        markedRow(marking(by(2, 2)), 0);
        markedRow(marking(by(2, 2), 0, 2, 0, 3), 34 + 20);
        markedRow(marking(by(2, 2), 0, 3, 2, 0), 85);
        markedRow(marking(by(2, 2), 2, 0, 0, 3), 85);
        markedRow(marking(by(2, 2), 0, 0, 0, 0), 8);
        markedRow(marking(by(2, 2), 0, 9, 0, 9, 0, 9, 0, 9, 0, 9, 0, 2), 34);
        markedRow(marking(by(2, 2), 0, 2, 0, 9, 0, 9, 0, 9, 0, 9, 0, 9), 34);
        markedRow(marking(by(2, 2), 4, 0, 4, 1), 127);
    }

    private static void markedRow(PascalRows x, int bits) {
        for (int k = 0; k <= 6; k++) {
            due("marked(6, " + k + ")", x.marked(6, k), bits >> k & 1);
        }
    }

    // ---- 1: the text

    private static void text() {
        of("1", "A set-up is read from THE TEXT (bytes, 100 at most):");
        PascalRows x = new PascalRows();
        feedAll(x, LONG);
        due("byte 100", x.feed('x'), 100);
        due("byte 101", x.feed('x'), FULL);
        due("read() of 100 bytes", x.read(), 12);
        due("the window of it", x.window(0, 0), 1002);
        clauses();
        clauseOfEachSort();
        of("1", "Nothing else stands between (no blanks).");
        String good = "p3;m41;w1,2;x;e2";
        for (char sign : new char[] {' ', '\t', '\n', '\r', 0, 127, '-', '+', '.', ':', '/', 'P'}) {
            for (int i = 0; i <= good.length(); i++) {
                String bad = good.substring(0, i) + sign + good.substring(i);
                due("read() with sign " + (int) sign + " at place " + i, readAll(new PascalRows(), bad), -10 - i);
            }
        }
        due("without them", readAll(new PascalRows(), good), 5);
    }

    private static void clauses() {
        of("1", "CLAUSES, 1 to 12, with ; between:");
        due("none", readAll(new PascalRows(), ""), -10);
        for (int n = 1; n <= 12; n++) {
            due(n + " clauses", readAll(new PascalRows(), TWELVE.substring(0, 2 * n - 1)), n);
        }
        due("thirteen", readAll(new PascalRows(), TWELVE + ";x"), -10 - 23);
        due("no ; between", readAll(new PascalRows(), "xx"), -11);
        due("a , between", readAll(new PascalRows(), "x,x"), -11);
        due("two ; between", readAll(new PascalRows(), "x;;x"), -12);
        due("a ; ahead", readAll(new PascalRows(), ";x"), -10);
        due("a ; behind", readAll(new PascalRows(), "x;"), -12);
        due("a ; alone", readAll(new PascalRows(), ";"), -10);
    }

    private static void clauseOfEachSort() {
        for (int digit = 0; digit <= 9; digit++) {
            of("1", "p DIGIT (as prime());");
            PascalRows x = by(5, 2);
            boolean isDone = digit == 2 || digit == 3 || digit == 5 || digit == 7;
            due("read() of p" + digit, readAll(x, "p" + digit), isDone ? 1 : 0);
            due("p", x.told(0), isDone ? digit : 5);
            of("1", "e DIGIT (as power());");
            isDone = digit >= 1 && digit <= 4;
            due("read() of e" + digit, readAll(x, "e" + digit), isDone ? 1 : 0);
            due("e", x.told(1), isDone ? digit : 2);
            of("1", "m DIGIT NUMBER (a MARK of KIND DIGIT, v NUMBER (1 to 3 digits); as mark());");
            due("read() of m" + digit + "9", readAll(x, "m" + digit + "9"), digit <= 4 ? 1 : 0);
            due("kind", x.markOf(0, 0), digit <= 4 ? digit : NONE);
            due("v", x.markOf(0, 1), digit <= 4 ? 9 : NONE);
        }
        of("1", "p DIGIT (as prime());");
        due("no digit", readAll(new PascalRows(), "p"), -11);
        due("two digits", readAll(new PascalRows(), "p33"), -12);
        of("1", "e DIGIT (as power());");
        due("no digit", readAll(new PascalRows(), "e"), -11);
        due("two digits", readAll(new PascalRows(), "e22"), -12);
        markClause();
        otherClauses();
    }

    private static void markClause() {
        of("1", "m DIGIT NUMBER (a MARK of KIND DIGIT, v NUMBER (1 to 3 digits); as mark());");
        PascalRows x = new PascalRows();
        due("numbers of 1, 2, 3 digits", readAll(x, "m07;m118;m2999;m30;m4100"), 5);
        int[] vs = {7, 18, 999, 0, 100};
        for (int mark = 0; mark < 5; mark++) {
            due("its kind", x.markOf(mark, 0), mark);
            due("its v", x.markOf(mark, 1), vs[mark]);
        }
        due("the sixth, not the seventh", readAll(x, "m01;m02"), 1);
        due("the sixth", x.markOf(5, 1), 1);
        due("no digit", readAll(x, "m"), -11);
        due("no number", readAll(x, "m0"), -12);
        due("a number of 4 digits", readAll(x, "m01234"), -15);
    }

    private static void otherClauses() {
        of("1", "x (there are no MARKS);");
        PascalRows x = marking(new PascalRows(), 0, 1, 0, 0);
        due("x of two", readAll(x, "x"), 1);
        due("none", x.told(3), 0);
        due("x of none", readAll(x, "x"), 1);
        due("x with a digit", readAll(x, "x1"), -11);
        of("1", "w NUMBER , NUMBER (WINDOW, as window(); 1 to 3 digits each).");
        int[][] windows = {{0, 0}, {1, 20}, {30, 4}, {127, 127}, {127, 0}, {0, 127}, {128, 0}, {0, 128}, {999, 999}};
        for (int[] w : windows) {
            PascalRows y = new PascalRows();
            y.window(5, 6);
            boolean isDone = w[0] <= 127 && w[1] <= 127;
            due("read() of w" + w[0] + "," + w[1], readAll(y, "w" + w[0] + "," + w[1]), isDone ? 1 : 0);
            due("its row", y.told(4), isDone ? w[0] : 5);
            due("its place", y.told(5), isDone ? w[1] : 6);
        }
        due("no number", readAll(x, "w,1"), -11);
        due("no number behind the ,", readAll(x, "w1,"), -13);
        due("no ,", readAll(x, "w1"), -12);
        due("4 digits ahead of the ,", readAll(x, "w1234,1"), -14);
        due("4 digits behind the ,", readAll(x, "w1,1234"), -16);
        due("a third number", readAll(x, "w1,1,1"), -14);
    }

    private static void faults() {
        of("1", "The FAULT: the place of the first byte with which none begins so");
        String[] texts = {"q", "P2", "1", ",", "px", "p;", "pp", "p22", "p2,", "e;", "ex", "e11", "mx", "m;", "m0;", "m0x", "m0,1", "m01x", "m012;m0129p",
            "m01234", "xx", "x1", "wx", "w;", "w,", "w1;", "w1x", "w1234", "w1,;", "w1,,", "w1,2,", "w1,2345", "p2;q", "x;;", "p2;e2;m00;x;w1;0", "x;;q"};
        int[] places = {0, 0, 0, 0, 1, 1, 1, 2, 2, 1, 1, 2, 1, 1, 2, 2, 2, 3, 10,
            5, 1, 1, 1, 1, 1, 2, 2, 4, 3, 3, 4, 6, 3, 2, 14, 2};
        check(texts.length == places.length, "as many texts as places");
        for (int i = 0; i < texts.length; i++) {
            due("read() of " + texts[i], readAll(new PascalRows(), texts[i]), -10 - places[i]);
        }
        tooEarly();
        of("1", "Without it they are done, one behind the other;");
        PascalRows x = new PascalRows();
        due("the later one stays", readAll(x, "p3;p5;e2;e4;w1,2;w3,4"), 6);
        due("p", x.told(0), 5);
        due("e", x.told(1), 4);
        due("window", x.window(0, 0), 3004);
        due("x clears what stood ahead of it alone", readAll(x, "m01;m02;x;m13"), 4);
        due("marks", x.told(3), 1);
        due("the one behind it", x.markOf(0, 1), 3);
        due("by a fault none is done", readAll(x, "p2;e1;x;m01;w9,9;q"), -10 - 17);
        due("p, e, marks stay", 100 * x.told(0) + 10 * x.told(1) + x.told(3), 541);
        due("window stays", x.window(0, 0), 0);
        of("1", "those that would be refused aren't.");
        PascalRows y = marking(by(3, 2), 0, 1);
        y.window(7, 8);
        due("none of them", readAll(y, "p4;p0;e0;e5;m50;m99;w128,0;w0,128"), 0);
        due("p, e, marks stay", 100 * y.told(0) + 10 * y.told(1) + y.told(3), 321);
        due("window stays", y.window(7, 8), 7008);
        due("those behind them are", readAll(y, "p4;p5;e5;e4;m50;m00;w128,0;w0,1"), 4);
        due("p, e, marks", 100 * y.told(0) + 10 * y.told(1) + y.told(3), 542);
        due("window", y.window(0, 0), 1);
        due("a seventh mark isn't", readAll(y, "x;m01;m01;m01;m01;m01;m01;m01;p2"), 8);
        due("six, and what is behind", 10 * y.told(3) + y.told(0), 62);
    }

    private static void tooEarly() {
        of("1", "(the end of THE TEXT, if it ends too early).");
        String whole = "p3;e2;m0123;x;w12,34";
        // What has been read up to each place: 0, if it is no set-up yet, else its clauses.
        int[] done = {0, 0, 1, 0, 0, 2, 0, 0, 0, 3, 3, 3, 0, 4, 0, 0, 0, 0, 0, 5, 5};
        check(done.length == whole.length() + 1, "each place is told");
        for (int n = 0; n <= whole.length(); n++) {
            String text = whole.substring(0, n);
            due("read() of " + text, readAll(new PascalRows(), text), done[n] > 0 ? done[n] : -10 - n);
        }
        due("100 bytes that end too early", readAll(new PascalRows(), LONG + "w"), -110);
    }

    // ---- 1: the window

    private static void theWindow() {
        of("1", "THE WINDOW: a row and a place (0, 0 at first) from which 8 rows and 8 places are looked at (row r and r + 1, .. r + 7; place c .. c + 7;");
        PascalRows x = marking(new PascalRows(), 4, 0, 4, 1);
        due("its row at first", x.told(4), 0);
        due("its place at first", x.told(5), 0);
        due("rows 0 .. 7 have so many places", x.told(6), 36);
        x.window(20, 5);
        due("8 times 8", x.told(6), 64);
        for (int i = 0; i < 8; i++) {
            due("picture(" + i + ")", x.picture(i), 255);
        }
        due("picture(8)", x.picture(8), NONE);
        // 23 stands in row 23 alone, at places 1 and 22.
        PascalRows y = marking(by(7, 4), 0, 23);
        int[][] windows = {{15, 1, 0}, {16, 1, 1}, {23, 1, 1}, {24, 1, 0}, {23, 2, 0}, {20, 0, 1}, {20, 14, 0}, {20, 15, 1}, {20, 22, 1}, {20, 23, 0},
            {16, 22, 1}, {15, 22, 0}};
        for (int[] w : windows) {
            y.window(w[0], w[1]);
            due("told(6) from " + w[0] + ", " + w[1] + " on", y.told(6), w[2]);
        }
        of("1", "those beyond row 127 have nothing, and aren't MARKED).");
        for (int kind = 0; kind < 5; kind++) {
            // Of what RULES tell in rows 120 .. 127 at places 0 .. 7 by 2, nothing is 6 and more.
            PascalRows z = marking(by(2, 1), kind, 0, kind, 1, kind, 2, kind, 3, kind, 4, kind, 5);
            int[] rows = {120, 121, 124, 127};
            for (int row : rows) {
                z.window(row, 0);
                due("told(6) from row " + row + " on, kind " + kind, z.told(6), 8 * (128 - row));
                for (int i = 128 - row; i < 8; i++) {
                    due("picture(" + i + ") from row " + row + " on", z.picture(i), 0);
                }
            }
        }
        beyondItsRow();
    }

    /** What a place beyond its row tells is in doubt: it is read so that RULES tell of places 0 .. i alone. */
    private static void beyondItsRow() {
        of("1", "A RULE tells a number of a row i and a place k (0 .. i), by a KIND: 0 DIRECT: REMAINDER.");
        PascalRows x = marking(new PascalRows(), 0, 0, 1, 0, 4, 0);
        x.window(0, 8);
        due("rows 0 .. 7 have no place 8", x.told(6), 0);
        x.window(127, 127);
        due("row 127 has no place 128", x.told(6), 0);
        x.mark(4, 1);
        due("it has place 127", x.told(6), 1);
    }

    // ---- 2

    private static void ask(String call, Call c) {
        PascalRows x = furnished();
        long first = c.on(x);
        due(call + " asked once more", c.on(x), first);
        unmoved(call, c, first);
    }

    private static void askAll() {
        for (int i = 0; i < 7; i++) {
            int n = i;
            ask("told(" + n + ")", x -> x.told(n));
            ask("markOf(" + n + ", 0)", x -> x.markOf(n, 0));
            ask("picture(" + n + ")", x -> x.picture(n));
            ask("row(60, " + n + ")", x -> x.row(60, n));
            ask("upTo(60, " + n + ")", x -> x.upTo(60, n));
            ask("kind(60, " + n + ")", x -> x.kind(60, n));
            ask("after(" + n + ")", x -> x.after(n));
            ask("count(" + n + ")", x -> x.count(n));
            ask("rule(" + n + ", 60, 30)", x -> x.rule(n, 60, 30));
            ask("odds(60, " + n + ", 0, 0)", x -> x.odds(60, n, 0, 0));
            ask("mean(60, " + n + ")", x -> x.mean(60, n));
            ask("peek(" + n + ", 1)", x -> x.peek(n, 1));
            ask("judge(3, " + n + ", 0)", x -> x.judge(3, n, 0));
            ask("pure(9720, " + n + ")", x -> x.pure(9720, n));
            ask("digit(9720, " + n + ")", x -> x.digit(9720, n));
        }
        ask("at(60, 30)", x -> x.at(60, 30));
        ask("marked(60, 30)", x -> x.marked(60, 30));
        ask("counted(60, 0)", x -> x.counted(60, 0));
        ask("like(0, 0, 27, 0, 27)", x -> x.like(0, 0, 27, 0, 27));
        ask("scaled(27, 2)", x -> x.scaled(27, 2));
        ask("fits()", x -> x.fits());
        ask("looked()", x -> x.looked());
    }

    private static void asked() {
        of("2", "All that follows is asked, and changes nothing.");
        askAll();
    }

    private static void rowsTold() {
        counts();
        kindsAndUsual();
        fullRows();
        heaviest();
        of("2", "SUM of a row: REMAINDERS of all its places, together.");
        for (int i = 0; i < 128; i++) {
            int sum = 0;
            for (int k = 0; k <= i; k++) {
                sum += remainder(i, k, 2401);
            }
            due("row(" + i + ", 2)", by(7, 4).row(i, 2), sum);
        }
        due("row 4 by 4", by(2, 2).row(4, 2), 4);
        due("row 127 by 2", by(2, 1).row(127, 2), 128);
        of("2", "DEPTH of a row: the greatest CARRIES of its places.");
        int[][] depths = {{2, 0, 0}, {2, 1, 0}, {2, 2, 1}, {2, 64, 6}, {2, 65, 5}, {2, 126, 6}, {2, 127, 0}, {3, 8, 0}, {3, 9, 2}, {3, 81, 4},
            {3, 80, 0}, {5, 4, 0}, {5, 5, 1}, {5, 125, 3}, {5, 124, 0}, {7, 6, 0}, {7, 49, 2}, {7, 96, 2}, {7, 97, 0}, {7, 98, 2}};
        for (int[] d : depths) {
            due("row(" + d[1] + ", 3) by " + d[0], by(d[0], 2).row(d[1], 3), d[2]);
        }
        for (int i = 0; i < 128; i++) {
            PascalRows x = by(3, 1);
            int most = 0;
            for (int k = 0; k <= i; k++) {
                most = Math.max(most, x.rule(2, i, k));
            }
            due("row(" + i + ", 3)", x.row(i, 3), most);
        }
    }

    private static int countOf(int i, int v, int modulus) {
        int places = 0;
        for (int k = 0; k <= i; k++) {
            places += remainder(i, k, modulus) == v ? 1 : 0;
        }
        return places;
    }

    private static void counts() {
        of("2", "COUNT of a row and a number v: how many of its places 0 .. i have REMAINDER v.");
        for (int i = 0; i < 128; i++) {
            PascalRows x = by(3, 4);
            for (int v = 0; v < 81; v++) {
                due("counted(" + i + ", " + v + ")", x.counted(i, v), countOf(i, v, 81));
            }
        }
        due("both ends of row 127", by(7, 4).counted(127, 127), 2);
        due("the only place of row 0", by(7, 4).counted(0, 1), 1);
        due("the middle place of row 2", by(7, 4).counted(2, 2), 1);
    }

    private static void kindsAndUsual() {
        for (int j = 0; j < 16; j++) {
            int p = PRIMES[j / 4];
            int modulus = MODULI[j / 4][j % 4];
            for (int i = 0; i < 128; i++) {
                TreeSet<Integer> kinds = new TreeSet<>();
                for (int k = 0; k <= i; k++) {
                    kinds.add(remainder(i, k, modulus));
                }
                PascalRows x = by(p, j % 4 + 1);
                of("2", "KINDS of a row: unlike REMAINDERS of its places, the least first;");
                due("row(" + i + ", 0) modulo " + modulus, x.row(i, 0), kinds.size());
                int n = 0;
                int usual = kinds.first();
                for (int v : kinds) {
                    due("kind(" + i + ", " + n + ") modulo " + modulus, x.kind(i, n), v);
                    usual = countOf(i, v, modulus) > countOf(i, usual, modulus) ? v : usual;
                    n++;
                }
                due("kind(" + i + ", " + n + ") modulo " + modulus, x.kind(i, n), MISSING);
                of("2", "the USUAL one: that which most of its places have (of several the least).");
                due("row(" + i + ", 1) modulo " + modulus, x.row(i, 1), usual);
            }
        }
        due("1 0 2 0 1: 0 and 1 are alike many", by(2, 2).row(4, 1), 0);
        due("1 5 10 10 5 1: all alike many", by(7, 4).row(5, 1), 1);
        due("1 0 0 1", by(3, 1).row(3, 1), 0);
        due("1 0 1: most of all, not the least", by(2, 1).row(2, 1), 1);
        due("1 2 1", by(3, 1).row(2, 1), 1);
        due("1", by(5, 3).row(0, 1), 1);
    }

    private static void fullRows() {
        of("2", "FULL rows: those in which no place has REMAINDER 0; of rows 0 .. i: how many; the last of them.");
        for (int j = 0; j < 16; j++) {
            int modulus = MODULI[j / 4][j % 4];
            int full = 0;
            int last = -1;
            for (int i = 0; i < 128; i++) {
                if (countOf(i, 0, modulus) == 0) {
                    full++;
                    last = i;
                }
                PascalRows x = by(PRIMES[j / 4], j % 4 + 1);
                due("upTo(" + i + ", 0) modulo " + modulus, x.upTo(i, 0), full);
                due("upTo(" + i + ", 1) modulo " + modulus, x.upTo(i, 1), last);
            }
        }
        due("row 0 alone", by(2, 1).upTo(0, 0), 1);
        due("it is the last", by(2, 1).upTo(0, 1), 0);
        due("row 2 by 2 isn't", by(2, 1).upTo(2, 1), 1);
        due("row 2 by 4 is", by(2, 2).upTo(2, 1), 2);
        due("row 3 by 2 is itself the last", by(2, 1).upTo(3, 1), 3);
    }

    private static void heaviest() {
        of("2", "HEAVIEST: of rows 0 .. i the one in which most places have REMAINDER 0 (of several the first).");
        for (int j = 0; j < 16; j++) {
            int modulus = MODULI[j / 4][j % 4];
            int heaviest = 0;
            for (int i = 0; i < 128; i++) {
                heaviest = countOf(i, 0, modulus) > countOf(heaviest, 0, modulus) ? i : heaviest;
                due("upTo(" + i + ", 2) modulo " + modulus, by(PRIMES[j / 4], j % 4 + 1).upTo(i, 2), heaviest);
            }
        }
        due("none has any: the first", by(7, 1).upTo(6, 2), 0);
        due("row 7 by 7", by(7, 1).upTo(7, 2), 7);
        due("rows 4 and 6 by 2 have three each", by(2, 1).upTo(7, 2), 4);
        due("row 8 by 2 has seven", by(2, 1).upTo(8, 2), 8);
    }

    private static void patches() {
        of("2", "PICTURE of THE WINDOW: for each of its rows bits (bit c for its place c) of those that are MARKED.");
        PascalRows x = marking(by(2, 1), 0, 1);
        x.window(4, 1);
        int[] bits = {8, 25, 42, 127, 128, 129, 130, 135};
        for (int i = 0; i < 8; i++) {
            due("picture(" + i + ")", x.picture(i), bits[i]);
        }
        of("2", "LIKE: two patches of s rows and s places (s 1 .. 32), told by their first rows and places, in which all REMAINDERS are alike.");
        int[][] begins = {{0, 0, 8, 0}, {0, 0, 8, 8}, {0, 0, 27, 0}, {0, 0, 27, 27}, {1, 0, 28, 0}, {2, 1, 29, 28}, {0, 5, 9, 14}, {40, 3, 40, 3}, {0, 0, 0, 1},
            {0, 90, 3, 127}, {126, 126, 0, 0}, {120, 1, 111, 1}, {5, 0, 4, 0}, {1, 1, 0, 0}, {2, 2, 1, 1}};
        for (int[] b : begins) {
            for (int s = 1; s <= 32; s++) {
                due("like(" + b[0] + ", " + b[1] + ", " + b[2] + ", " + b[3] + ", " + s + ") by 2", by(2, 1).like(b[0], b[1], b[2], b[3], s),
                    likeBy(2, b[0], b[1], b[2], b[3], s));
                due("the same by 3", by(3, 1).like(b[0], b[1], b[2], b[3], s), likeBy(3, b[0], b[1], b[2], b[3], s));
            }
        }
        due("one place", by(2, 1).like(0, 0, 127, 127, 1), 1);
        due("32 rows and places", by(2, 1).like(0, 0, 32, 0, 32), 1);
        due("no rows", by(2, 1).like(0, 0, 0, 0, 0), BAD);
        due("33 rows", by(2, 1).like(0, 0, 0, 0, 33), BAD);
        scales();
    }

    private static int likeBy(int modulus, int a, int b, int c, int d, int s) {
        for (int i = 0; i < s; i++) {
            for (int k = 0; k < s; k++) {
                if (remainder(a + i, b + k, modulus) != remainder(c + i, d + k, modulus)) {
                    return 0;
                }
            }
        }
        return 1;
    }

    private static void scales() {
        of("2", "SCALED by t (1 .. 9): of patches of s rows and places at 0, 0 and at row t s, place 0: whether they are LIKE.");
        for (int p : PRIMES) {
            for (int s = 1; s <= 32; s++) {
                for (int t = 1; t <= 9; t++) {
                    due("scaled(" + s + ", " + t + ") by " + p, by(p, 1).scaled(s, t), likeBy(p, 0, 0, t * s, 0, s));
                }
            }
        }
        due("rows 96 .. 127", by(2, 1).scaled(32, 3), 1);
        due("rows 128 .. 159 have nothing", by(2, 1).scaled(32, 4), 0);
        due("rows 112 .. 127", by(2, 1).scaled(16, 7), 1);
        due("t 0", by(2, 1).scaled(8, 0), BAD);
        due("t 10", by(2, 1).scaled(8, 10), BAD);
        due("t 9", by(2, 1).scaled(8, 9), 1);
        due("rows 12 .. 14 by 2 begin as rows 0 .. 2", by(2, 1).scaled(3, 4), 1);
        due("rows 15 .. 17 don't", by(2, 1).scaled(3, 5), 0);
    }

    private static void seenAndOdds() {
        of("2", "SEEN told by hand: a row, a place, its REMAINDER (4 rows at most).");
        PascalRows x = new PascalRows();
        for (int n = 1; n <= 4; n++) {
            due("see " + n, x.see(7, n, 0), n);
        }
        due("see 5", x.see(7, 5, 0), FULL);
        // 7, 21, 35, 35 by 2, 3, 5, 7: all of them are 0 by 7 alone.
        due("by 7 alone all are so", x.fits(), 8);
        fit();
        of("2", "ODDS of a row and a KIND of RULES and v: its places being alike likely, how likely that RULE tells v: a fraction in lowest terms.");
        // Row 5 by 4: 1 1 2 2 1 1; by 2 it has carries 0 0 1 1 0 0. Row, kind, v, above, below.
        int[][] odds = {{5, 0, 1, 2, 3}, {5, 0, 2, 1, 3}, {5, 0, 0, 0, 1}, {5, 0, 3, 0, 1}, {5, 1, 1, 2, 3}, {5, 1, 0, 1, 3}, {5, 2, 0, 2, 3}, {5, 2, 1, 1, 3},
            {5, 3, 0, 2, 3}, {5, 3, 1, 1, 3}, {5, 4, 1, 2, 3}, {5, 4, 0, 1, 3}, {0, 0, 1, 1, 1}, {0, 0, 0, 0, 1}, {127, 1, 1, 1, 1}, {127, 4, 0, 0, 1},
            {4, 0, 0, 2, 5}, {4, 0, 2, 1, 5}, {7, 0, 1, 1, 2}, {15, 0, 3, 1, 2}};
        for (int[] o : odds) {
            due("odds(" + o[0] + ", " + o[1] + ", " + o[2] + ", 0)", by(2, 2).odds(o[0], o[1], o[2], 0), o[3]);
            due("odds(" + o[0] + ", " + o[1] + ", " + o[2] + ", 1)", by(2, 2).odds(o[0], o[1], o[2], 1), o[4]);
        }
        of("2", "MEAN of a row: REMAINDERS of all its places, together, by how many there are: a fraction in lowest terms.");
        // p, e, row, above, below
        int[][] means = {{2, 1, 0, 1, 1}, {2, 2, 4, 4, 5}, {2, 2, 5, 4, 3}, {2, 1, 127, 1, 1}, {7, 4, 7, 16, 1}, {7, 4, 10, 1024, 11}, {2, 1, 10, 4, 11},
            {2, 1, 5, 2, 3}, {5, 4, 25, 2841, 13}, {2, 1, 64, 2, 65}};
        for (int[] m : means) {
            due("mean(" + m[2] + ", 0) by " + m[0] + ", " + m[1], by(m[0], m[1]).mean(m[2], 0), m[3]);
            due("mean(" + m[2] + ", 1) by " + m[0] + ", " + m[1], by(m[0], m[1]).mean(m[2], 1), m[4]);
        }
    }

    private static void fit() {
        of("2", "FITS: of p 2, 3, 5, 7 (bits 0 .. 3), e as it is, by which all of SEEN would be so.");
        // Row, place, remainder, the bits by e 1, 2, 3, 4.
        int[][] told = {{4, 2, 0, 3, 0, 0, 0}, {4, 2, 2, 0, 1, 0, 0}, {4, 2, 6, 8, 14, 15, 15}, {2, 1, 0, 1, 0, 0, 0}, {3, 1, 0, 2, 0, 0, 0}, {5, 1, 0, 4, 0, 0, 0},
            {7, 1, 0, 8, 0, 0, 0}, {0, 0, 1, 15, 15, 15, 15}, {0, 0, 0, 0, 0, 0, 0}, {8, 4, 70, 0, 0, 12, 14}, {7, 3, 0, 12, 0, 0, 0}, {0, 0, 2400, 0, 0, 0, 0}};
        for (int[] t : told) {
            for (int p : PRIMES) {
                PascalRows x = by(p, 1);
                x.see(t[0], t[1], t[2]);
                for (int e = 1; e <= 4; e++) {
                    x.power(e);
                    due("fits() of " + t[0] + ", " + t[1] + ", " + t[2] + " by e " + e, x.fits(), t[2 + e]);
                }
            }
        }
        PascalRows x = new PascalRows();
        x.see(7, 3, 0);
        x.see(4, 2, 1);
        due("35 is 0 by 5 and 7, 6 is 1 by 5", x.fits(), 4);
        x.see(0, 0, 1);
        x.see(6, 3, 1);
        due("the fourth can't be by 5, 20 is 0", x.fits(), 0);
    }

    // ---- 2: events

    private static void events() {
        of("2", "EVENTS told by hand: what happens (0 p becomes the next of 2, 3, 5, 7 (of 7: 2);");
        int[] next = {3, 5, 7, 2};
        for (int j = 0; j < 4; j++) {
            PascalRows x = by(PRIMES[j], 1);
            for (int n = 0; n < 8; n++) {
                x.event(0, 0);
                due("after(1) of " + PRIMES[j] + ", " + (n + 1) + " times on", x.after(1), next[(j + n) % 4]);
            }
        }
        of("2", "1 e becomes n (1 .. 4);");
        for (int e = 1; e <= 4; e++) {
            for (int n = 1; n <= 4; n++) {
                PascalRows x = by(3, e);
                due("event(1, " + n + ")", x.event(1, n), 1);
                due("after(1)", x.after(1), MODULI[1][n - 1]);
            }
        }
        due("event(1, 0)", new PascalRows().event(1, 0), BAD);
        due("event(1, 5)", new PascalRows().event(1, 5), BAD);
        windowGoes();
        marksGo();
        of("2", "8 rows at most):");
        PascalRows x = new PascalRows();
        for (int n = 1; n <= 8; n++) {
            due("event " + n, x.event(0, 0), n);
        }
        due("event 9", x.event(0, 0), FULL);
        due("eight of them happen", x.after(1), 2);
        of("2", "AFTER, behind all of it: how many places of THE WINDOW are MARKED; M; how many MARKS.");
        PascalRows y = marking(by(2, 1), 0, 1, 0, 8, 2, 9);
        y.event(1, 2);
        y.event(0, 0);
        y.event(3, 2);
        y.event(2, 4);
        due("M is 9, by the first and the second", y.after(1), 9);
        due("two marks are left", y.after(2), 2);
        int marked = 0;
        for (int i = 4; i < 12; i++) {
            for (int k = 0; k < 8; k++) {
                marked += remainder(i, k, 9) == 1 || remainder(i, k, 9) == 8 ? 1 : 0;
            }
        }
        due("rows 4 .. 11 by 9", y.after(0), marked);
    }

    private static void windowGoes() {
        of("2", "2 THE WINDOW's row is n more (0 .. 99), 127 at most;");
        PascalRows x = marking(new PascalRows(), 4, 0, 4, 1);
        due("n -1", x.event(2, -1), BAD);
        due("n 100", x.event(2, 100), BAD);
        // From row r on all places there are are marked: rows 0 .. 7 have 36 of them, 8 each have those of row 7 on.
        int[][] told = {{0, 0, 36}, {0, 1, 43}, {0, 7, 64}, {0, 99, 64}, {21, 99, 64}, {22, 99, 56}, {27, 99, 16}, {28, 99, 8}, {29, 99, 8}, {100, 99, 8},
            {120, 0, 64}, {120, 7, 8}, {120, 8, 8}, {127, 0, 8}, {127, 1, 8}, {127, 99, 8}};
        for (int[] t : told) {
            x.window(t[0], 0);
            x.event(-1, 0);
            due("event(2, " + t[1] + ")", x.event(2, t[1]), 1);
            due("after(0) from row " + t[0] + " on, " + t[1] + " more", x.after(0), t[2]);
        }
        x.window(0, 0);
        x.event(-1, 0);
        x.event(2, 99);
        x.event(2, 99);
        due("after(0), 99 more and 99 more", x.after(0), 8);
    }

    /** By 2 rows 0 .. 7 have 27 places without a carry, 6 with one, 3 with two; none has three. */
    private static void marksGo() {
        of("2", "3 MARK n goes, those behind it are one number less, if there is one;");
        int[] vs = {3, 0, 4, 1, 5, 2};
        int[] left = {36, 9, 36, 30, 36, 33};
        PascalRows x = new PascalRows();
        for (int v : vs) {
            x.mark(2, v);
        }
        for (int n = 0; n < 6; n++) {
            x.event(-1, 0);
            x.event(3, n);
            due("after(2), mark " + n + " goes", x.after(2), 5);
            due("after(0), mark " + n + " goes", x.after(0), left[n]);
        }
        x.event(3, 5);
        due("there is no mark 5 by then", x.after(2), 5);
        x.event(3, 1);
        due("mark 1 goes, with 27 places", x.after(0), 6);
        x.event(3, 1);
        x.event(3, 1);
        due("marks 2 and 3 were one number less, and one less again", x.after(0), 0);
        x.event(3, 0);
        due("one is left", x.after(2), 1);
        x.event(3, 0);
        due("none is left", x.after(2), 0);
        x.event(3, 0);
        due("there is none any more", x.after(2), 0);
        PascalRows y = new PascalRows();
        y.event(3, 0);
        due("there was none", y.after(2), 0);
    }

    private static void bookAndImage() {
        of("2", "A BOOK told by hand: rows, REMAINDERS at place 10 of them (8 rows at most):");
        PascalRows x = by(7, 4);
        int[] tenth = {1, 11, 66, 286, 1001, 3003 % 2401, 8008 % 2401, 19448 % 2401};
        for (int n = 0; n < 8; n++) {
            due("book " + (n + 1), x.book(10 + n, tenth[n]), n + 1);
        }
        due("book 9", x.book(18, 0), FULL);
        due("all are so at place 10", x.looked(), MISSING);
        of("2", "LOOKED at: the number (from 0) of the first of these rows that is otherwise now (-5: none).");
        due("an empty one", new PascalRows().looked(), MISSING);
        for (int n = 0; n < 8; n++) {
            PascalRows y = by(7, 4);
            for (int i = 0; i < 8; i++) {
                y.book(10 + i, i >= n ? 5 : tenth[i]);
            }
            due("otherwise from " + n + " on", y.looked(), n);
        }
        x.power(3);
        due("286 is so by 343, 1001 isn't now", x.looked(), 4);
        x.prime(2);
        due("11 isn't by 8 now", x.looked(), 1);
        x.prime(7);
        x.power(4);
        due("all are again", x.looked(), MISSING);
        imageOfEach();
    }

    private static void imageOfEach() {
        of("2", "THE IMAGE: p, e, MARKS, THE WINDOW, SEEN, EVENTS, the BOOK.");
        Call[] changes = {x -> x.prime(2), x -> x.power(1), x -> x.mark(1, 7), x -> x.clear(), x -> x.window(1, 1), x -> x.see(2, 1, 2), x -> x.see(-1, 0, 0),
            x -> x.event(2, 40), x -> x.event(3, 0), x -> x.event(-1, 0), x -> x.book(7, 5), x -> x.book(-1, 0)};
        for (int i = 0; i < changes.length; i++) {
            PascalRows touched = furnished();
            PascalRows untouched = furnished();
            touched.image();
            untouched.image();
            changes[i].on(touched);
            check(!examined(touched).equals(examined(untouched)), "change " + i + " can be told");
            touched = furnished();
            untouched = furnished();
            touched.image();
            untouched.image();
            changes[i].on(touched);
            due("undo()", touched.undo(), 27);
            check(examined(touched).equals(examined(untouched)), "change " + i + " is undone");
        }
    }

    // ---- 3

    private static void tapes() {
        of("3", "TAPES 0 .. 5 hold nothing (at first),");
        PascalRows x = new PascalRows();
        due("tape -1", x.item(-1, 0, 1), NONE);
        for (int tape = 0; tape < 6; tape++) {
            due("item(" + tape + ", 0, 1)", x.item(tape, 0, 1), NOTHING);
            due("peek(" + tape + ", 0)", x.peek(tape, 0), NO);
            due("shift from it", x.shift(tape, 0, tape, 0, 0), NOTHING);
            due("judge(0, " + tape + ", 0)", x.judge(0, tape, 0), 200);
        }
        due("tape 6", x.item(6, 0, 1), NONE);
        of("3", "or a row of 0 bytes, 1 shorts, 2 ints, 3 longs, 4 booleans (items 0, 1).");
        long[] given = {0, 1, -1, 127, 128, 255, 256, -128, -129, 32767, 32768, 65536, -32769, 2147483647L, 2147483648L, 4294967296L, -2147483649L,
            Long.MAX_VALUE, Long.MIN_VALUE};
        for (long v : given) {
            PascalRows y = new PascalRows();
            for (int sort = 0; sort < 5; sort++) {
                y.tape(sort, sort, 1);
                y.item(sort, 0, v);
            }
            due("a byte of " + v, y.peek(0, 0), (byte) v);
            due("a short of " + v, y.peek(1, 0), (short) v);
            due("an int of " + v, y.peek(2, 0), (int) v);
            due("a long of " + v, y.peek(3, 0), v);
            due("a boolean of " + v, y.peek(4, 0), v == 0 ? 0 : 1);
        }
        due("sort 5", new PascalRows().tape(0, 5, 1), BAD);
    }

    private static void judged() {
        of("3", "REMAINDERS of a row told by a row of shorts, from a place on, are JUDGED: the first place that is otherwise;");
        PascalRows x = by(7, 1);
        // Row 4 by 7: 1 4 6 4 1.
        for (int otherwise = 0; otherwise < 5; otherwise++) {
            fill(x, 0, 1, 9, 9, 1, 4, 6, 4, 1, 9);
            x.item(0, 2 + otherwise, 5);
            due("place " + otherwise + " is otherwise", x.judge(4, 0, 2), otherwise);
            x.item(0, 6, 5);
            due("place 4 is otherwise, too", x.judge(4, 0, 2), otherwise);
        }
        of("3", "-5: none;");
        fill(x, 0, 1, 9, 9, 1, 4, 6, 4, 1, 9);
        due("row 4 from 2 on", x.judge(4, 0, 2), MISSING);
        due("row 0 from 6 on", x.judge(0, 0, 6), MISSING);
        fill(x, 0, 1, 1, 4, 6, 4, 1);
        due("the row ends just behind it", x.judge(4, 0, 0), MISSING);
        fill(x, 0, 1, 65537, -65532, 6, 4, 1);
        due("shorts have their lowest bits alone", x.judge(4, 0, 0), MISSING);
        of("3", "200 and how many were looked at, if the row ends ahead of that");
        long[] row = {1, 4, 6, 4, 1};
        for (int n = 0; n < 5; n++) {
            fill(x, 0, 1, java.util.Arrays.copyOf(row, n));
            due("it has " + n, x.judge(4, 0, 0), 200 + n);
        }
        fill(x, 0, 1, 9, 9, 1, 4);
        due("it has two from 2 on", x.judge(4, 0, 2), 202);
        due("otherwise ahead of its end", x.judge(4, 0, 1), 0);
        due("from its end on", x.judge(4, 0, 4), 200);
        due("from beyond its end on", x.judge(4, 0, 5), 200);
        due("from MOST on", x.judge(127, 0, MOST), 200);
        PascalRows y = by(2, 1);
        long[] ones = new long[60];
        java.util.Arrays.fill(ones, 1);
        fill(y, 5, 1, ones);
        due("60 were looked at", y.judge(127, 5, 0), 260);
        due("one was", y.judge(127, 5, 59), 201);
        of("3", "(or the place is below 0, or the TAPE holds nothing).");
        due("from -1 on", y.judge(0, 5, -1), 200);
        due("from LEAST on", y.judge(0, 5, LEAST), 200);
        due("nothing", y.judge(0, 4, 0), 200);
        due("nothing from -1 on", y.judge(127, 4, -1), 200);
        y.tape(5, -1, 0);
        due("nothing any more", y.judge(0, 5, 0), 200);
    }

    private static void refusals() {
        of("3", "The host's refusals: NOTHING (-11): nothing is there;");
        unmoved("item(5, 0, 1)", x -> x.item(5, 0, 1), -11);
        unmoved("shift(5, 0, 0, 0, 1)", x -> x.shift(5, 0, 0, 0, 1), -11);
        unmoved("shift(0, 0, 5, 0, 1)", x -> x.shift(0, 0, 5, 0, 1), -11);
        of("3", "CAST (-12): another sort;");
        unmoved("judge(0, 0, 0)", x -> x.judge(0, 0, 0), -12);
        unmoved("shift(0, 0, 1, 0, 1)", x -> x.shift(0, 0, 1, 0, 1), -12);
        of("3", "PLACE (-13): no such place;");
        unmoved("item(0, 3, 1)", x -> x.item(0, 3, 1), -13);
        unmoved("item(0, -1, 1)", x -> x.item(0, -1, 1), -13);
        unmoved("shift(0, 2, 0, 0, 2)", x -> x.shift(0, 2, 0, 0, 2), -13);
        of("3", "SIZE (-14): a size below 0.");
        unmoved("tape(0, 0, -1)", x -> x.tape(0, 0, -1), -14);
        unmoved("tape(5, 3, LEAST)", x -> x.tape(5, 3, LEAST), -14);
        due("a size of 0", furnished().tape(0, 0, 0), 1);
    }

    // ---- answers

    private static void answers() {
        noneAnswered();
        of("Answers:", "BAD (-2) a number is not as told;");
        unmoved("prime(4)", x -> x.prime(4), -2);
        unmoved("power(0)", x -> x.power(0), -2);
        unmoved("mark(0, 2401)", x -> x.mark(0, 2401), -2);
        unmoved("window(128, 0)", x -> x.window(128, 0), -2);
        unmoved("feed(128)", x -> x.feed(128), -2);
        unmoved("digit(10000, 0)", x -> x.digit(10000, 0), -2);
        unmoved("pure(0, 0)", x -> x.pure(0, 0), -2);
        unmoved("like(0, 0, 0, 0, 33)", x -> x.like(0, 0, 0, 0, 33), -2);
        unmoved("scaled(33, 1)", x -> x.scaled(33, 1), -2);
        unmoved("see(0, 0, 2401)", x -> x.see(0, 0, 2401), -2);
        unmoved("event(0, 1)", x -> x.event(0, 1), -2);
        unmoved("book(0, 2401)", x -> x.book(0, 2401), -2);
        unmoved("count(4)", x -> x.count(4), -2);
        unmoved("tape(0, 5, 1)", x -> x.tape(0, 5, 1), -2);
        of("Answers:", "STATE (-3) as told;");
        due("undo()", new PascalRows().undo(), -3);
        unmoved(PascalRows::new, "undo()", x -> x.undo(), -3);
        of("Answers:", "FULL (-4);");
        unmoved(Sentences::brimful, "mark(0, 0)", x -> x.mark(0, 0), -4);
        unmoved(Sentences::brimful, "feed(0)", x -> x.feed(0), -4);
        unmoved(Sentences::brimful, "see(0, 0, 0)", x -> x.see(0, 0, 0), -4);
        unmoved(Sentences::brimful, "event(0, 0)", x -> x.event(0, 0), -4);
        unmoved(Sentences::brimful, "book(0, 0)", x -> x.book(0, 0), -4);
        firstNamed();
        of("Answers:", "What is answered so changes nothing;");
        changesNothing();
        of("Answers:", "what is asked changes nothing.");
        askAll();
    }

    private static void noneAnswered() {
        of("Answers:", "NONE (-1) no such number, row (0 .. 127), place (0 .. row);");
        for (int none : new int[] {LEAST, -1, 128, MOST}) {
            Call[] calls = {x -> x.at(none, 0), x -> x.rule(0, none, 0), x -> x.marked(none, 0), x -> x.counted(none, 0), x -> x.row(none, 0),
                x -> x.kind(none, 0), x -> x.upTo(none, 0), x -> x.like(none, 0, 0, 0, 1), x -> x.like(0, 0, none, 0, 1),
                x -> x.judge(none, 1, 0), x -> x.told(none), x -> x.markOf(none, 0), x -> x.picture(none), x -> x.after(none), x -> x.tape(none, 0, 1)};
            for (int i = 0; i < calls.length; i++) {
                unmoved("call " + i + " of " + none, calls[i], -1);
            }
        }
        for (int none : new int[] {LEAST, -2, 128, MOST}) {
            unmoved("see(" + none + ", 0, 0)", x -> x.see(none, 0, 0), -1);
            unmoved("book(" + none + ", 0)", x -> x.book(none, 0), -1);
            unmoved("event(" + none + ", 0)", x -> x.event(none, 0), -1);
        }
        for (int row : new int[] {0, 1, 60, 127}) {
            for (int place : new int[] {LEAST, -1, row + 1, 128, MOST}) {
                unmoved("rule(0, " + row + ", " + place + ")", x -> x.rule(0, row, place), -1);
                unmoved("marked(" + row + ", " + place + ")", x -> x.marked(row, place), -1);
                unmoved("see(" + row + ", " + place + ", 0)", x -> x.see(row, place, 0), -1);
            }
        }
    }

    private static void firstNamed() {
        of("Answers:", "the first that a call's words name.");
        unmoved(Sentences::brimful, "mark(5, 2401)", x -> x.mark(5, 2401), NONE);
        unmoved(Sentences::brimful, "mark(5, 0)", x -> x.mark(5, 0), NONE);
        unmoved(Sentences::brimful, "mark(0, 2401)", x -> x.mark(0, 2401), BAD);
        unmoved(Sentences::brimful, "feed(128)", x -> x.feed(128), BAD);
        unmoved("digit(-1, -2)", x -> x.digit(-1, -2), BAD);
        unmoved("digit(10000, -2)", x -> x.digit(10000, -2), BAD);
        unmoved("pure(0, 2)", x -> x.pure(0, 2), BAD);
        unmoved("like(128, 0, 0, 0, 33)", x -> x.like(128, 0, 0, 0, 33), NONE);
        unmoved("like(0, 0, 0, -1, 0)", x -> x.like(0, 0, 0, -1, 0), NONE);
        unmoved(Sentences::brimful, "see(128, 0, 2401)", x -> x.see(128, 0, 2401), NONE);
        unmoved(Sentences::brimful, "see(5, 6, 2401)", x -> x.see(5, 6, 2401), NONE);
        unmoved(Sentences::brimful, "see(5, 6, 0)", x -> x.see(5, 6, 0), NONE);
        unmoved(Sentences::brimful, "see(5, 5, 2401)", x -> x.see(5, 5, 2401), BAD);
        unmoved(Sentences::brimful, "event(4, -1)", x -> x.event(4, -1), NONE);
        unmoved(Sentences::brimful, "event(4, 0)", x -> x.event(4, 0), NONE);
        unmoved(Sentences::brimful, "event(1, 5)", x -> x.event(1, 5), BAD);
        unmoved(Sentences::brimful, "book(128, 2401)", x -> x.book(128, 2401), NONE);
        unmoved(Sentences::brimful, "book(128, 0)", x -> x.book(128, 0), NONE);
        unmoved(Sentences::brimful, "book(0, 2401)", x -> x.book(0, 2401), BAD);
        unmoved("judge(128, 0, 0)", x -> x.judge(128, 0, 0), NONE);
        unmoved("judge(0, 0, -1)", x -> x.judge(0, 0, -1), CAST);
        unmoved("judge(0, 6, -1)", x -> x.judge(0, 6, -1), NONE);
        unmoved("tape(6, 5, -1)", x -> x.tape(6, 5, -1), NONE);
        unmoved("tape(0, 5, -1)", x -> x.tape(0, 5, -1), BAD);
        unmoved("item(6, -1, 0)", x -> x.item(6, -1, 0), NONE);
        unmoved("item(5, -1, 0)", x -> x.item(5, -1, 0), NOTHING);
        unmoved("shift(6, 0, 5, 0, -1)", x -> x.shift(6, 0, 5, 0, -1), NONE);
        unmoved("shift(5, 0, 6, 0, -1)", x -> x.shift(5, 0, 6, 0, -1), NONE);
        unmoved("shift(5, 0, 0, 0, -1)", x -> x.shift(5, 0, 0, 0, -1), NOTHING);
        unmoved("shift(0, 0, 5, 0, -1)", x -> x.shift(0, 0, 5, 0, -1), NOTHING);
        unmoved("shift(0, 0, 1, 0, -1)", x -> x.shift(0, 0, 1, 0, -1), CAST);
        unmoved("shift(0, 9, 1, 9, 1)", x -> x.shift(0, 9, 1, 9, 1), CAST);
    }

    /** With edges of int at each place of each call that can refuse them: an answer below 0 has changed nothing. */
    private static void changesNothing() {
        int[] edges = {LEAST, LEAST + 1, -100, -2, MOST - 1, MOST};
        for (int v : edges) {
            Call[] calls = {x -> x.prime(v), x -> x.power(v), x -> x.mark(v, 0), x -> x.mark(0, v), x -> x.window(v, 0), x -> x.window(0, v), x -> x.feed(v),
                x -> x.told(v), x -> x.markOf(v, 0), x -> x.markOf(0, v), x -> x.at(v, 0), x -> x.rule(v, 0, 0), x -> x.rule(0, v, 0), x -> x.rule(0, 0, v),
                x -> x.marked(v, 0), x -> x.marked(0, v), x -> x.digit(v, 0), x -> x.pure(v, 0), x -> x.pure(1, v), x -> x.counted(v, 0),
                x -> x.row(v, 0), x -> x.row(0, v), x -> x.kind(v, 0), x -> x.upTo(v, 0), x -> x.upTo(0, v), x -> x.picture(v),
                x -> x.like(v, 0, 0, 0, 1), x -> x.like(0, v, 0, 0, 1), x -> x.like(0, 0, v, 0, 1), x -> x.like(0, 0, 0, v, 1), x -> x.like(0, 0, 0, 0, v),
                x -> x.scaled(v, 1), x -> x.scaled(1, v), x -> x.see(v, 0, 0), x -> x.see(0, v, 0), x -> x.see(0, 0, v),
                x -> x.odds(v, 0, 0, 0), x -> x.odds(0, v, 0, 0), x -> x.odds(0, 0, 0, v), x -> x.mean(v, 0), x -> x.mean(0, v),
                x -> x.event(v, 0), x -> x.event(0, v), x -> x.event(1, v), x -> x.event(2, v), x -> x.event(3, v), x -> x.after(v), x -> x.book(v, 0),
                x -> x.book(0, v), x -> x.judge(v, 1, 0), x -> x.judge(0, v, 0), x -> x.count(v), x -> x.tape(v, 0, 1), x -> x.tape(0, v, 1),
                x -> x.tape(0, 0, v), x -> x.item(v, 0, 7), x -> x.item(0, v, 7), x -> x.peek(v, 0), x -> x.peek(0, v), x -> x.shift(v, 0, 0, 0, 1),
                x -> x.shift(0, 0, v, 0, 1), x -> x.shift(0, v, 0, 0, 1), x -> x.shift(0, 0, 0, v, 1), x -> x.shift(0, 0, 0, 1, v)};
            for (int i = 0; i < calls.length; i++) {
                long answer = calls[i].on(furnished());
                check(answer < 0, "call " + i + " of " + v + " is refused: " + answer);
                unmoved("call " + i + " of " + v, calls[i], answer);
            }
        }
    }

    // ---- in doubt

    private static void inDoubt() {
        of("In doubt.", "A thirteenth CLAUSE is a FAULT at the ; ahead of it;");
        for (String behind : new String[] {";x", ";p3", ";", ";q", ";;", ";x;x"}) {
            PascalRows x = marking(new PascalRows(), 0, 1);
            due("read() of twelve and " + behind, readAll(x, TWELVE + behind), -10 - 23);
            due("none is done", x.told(3), 1);
        }
        due("twelve", readAll(new PascalRows(), TWELVE), 12);
        of("In doubt.", "numbers may have noughts ahead.");
        PascalRows y = new PascalRows();
        due("read()", readAll(y, "m0007;m2010;m400;w007,040"), 4);
        due("7", y.markOf(0, 1), 7);
        due("10", y.markOf(1, 1), 10);
        due("0", y.markOf(2, 1), 0);
        due("7 and 40", y.window(0, 0), 7040);
        due("no more than 3 digits, though", readAll(y, "m00007"), -15);
        numbersBeyond();
        of("In doubt.", "With nothing SEEN all four fit, 15.");
        for (int e = 1; e <= 4; e++) {
            due("fits() at first", by(7, e).fits(), 15);
        }
        PascalRows z = new PascalRows();
        z.see(0, 0, 0);
        due("none fits", z.fits(), 0);
        z.see(-1, 0, 0);
        due("nothing any more", z.fits(), 15);
        beyondRows();
        imageLeaves();
        eventsAndMarks();
        constants();
    }

    private static void numbersBeyond() {
        of("In doubt.", "A number v that is below 0 or M and more is counted 0 times,");
        for (int j = 0; j < 4; j++) {
            for (int e = 1; e <= 4; e++) {
                int modulus = MODULI[j][e - 1];
                PascalRows x = by(PRIMES[j], e);
                for (int v : new int[] {LEAST, -modulus, 1 - modulus, -1, modulus, modulus + 1, 2 * modulus, 2 * modulus + 1, MOST}) {
                    due("counted(127, " + v + ") modulo " + modulus, x.counted(127, v), 0);
                    due("counted(0, " + v + ") modulo " + modulus, x.counted(0, v), 0);
                }
            }
        }
        of("In doubt.", "its ODDS are 0 by 1.");
        for (int j = 0; j < 4; j++) {
            for (int e = 1; e <= 4; e++) {
                int modulus = MODULI[j][e - 1];
                for (int v : new int[] {LEAST, -modulus, 1 - modulus, -1, modulus, modulus + 1, 2 * modulus, 2 * modulus + 1, MOST}) {
                    PascalRows x = by(PRIMES[j], e);
                    due("odds(125, 0, " + v + ", 0) modulo " + modulus, x.odds(125, 0, v, 0), 0);
                    due("odds(125, 0, " + v + ", 1) modulo " + modulus, x.odds(125, 0, v, 1), 1);
                    due("odds(125, 1, " + v + ", 0) modulo " + modulus, x.odds(125, 1, v, 0), 0);
                    due("odds(125, 4, " + v + ", 1) modulo " + modulus, x.odds(125, 4, v, 1), 1);
                }
            }
        }
        for (int kind = 0; kind < 5; kind++) {
            due("odds(64, " + kind + ", -1, 0)", by(2, 1).odds(64, kind, -1, 0), 0);
            due("odds(64, " + kind + ", -1, 1)", by(2, 1).odds(64, kind, -1, 1), 1);
        }
    }

    private static void beyondRows() {
        of("In doubt.", "REMAINDERS at places beyond a row are 0, in the BOOK and beyond row 127, too.");
        PascalRows x = by(7, 4);
        for (int row = 0; row < 8; row++) {
            x.book(row, 0);
        }
        due("rows 0 .. 7 have no place 10", x.looked(), MISSING);
        x.book(-1, 0);
        x.book(8, 0);
        x.book(9, 0);
        x.book(10, 0);
        due("rows 8 and 9 haven't, row 10 has", x.looked(), 2);
        x.book(-1, 0);
        x.book(9, 1);
        due("at place 10 of row 9 is no 1", x.looked(), 0);
        due("at(9, 10)", x.at(9, 10), 0);
        due("rows 127 and 128 from place 127 on: 1 0, 0 0", x.like(127, 127, 127, 127, 2), 1);
        due("beyond row 127 as beyond row 0", x.like(127, 126, 0, 126, 1), 0);
        due("row 127 from place 127 on as row 0", x.like(127, 127, 0, 0, 1), 1);
        due("row 128 has no 1 as row 1 has", x.like(127, 127, 0, 0, 2), 0);
        due("rows 127 .. 129 from place 127 on, rows 127 .. 129 from there on", x.like(127, 127, 127, 127, 32), 1);
        due("row 126 as row 0, row 127 from place 127 on isn't 0", x.like(126, 127, 0, 40, 2), 0);
        due("row 126 from place 127 on as row 0 from 40 on", x.like(126, 127, 0, 40, 1), 1);
        due("rows 128 .. 159", x.scaled(32, 4), 0);
    }

    private static void imageLeaves() {
        of("In doubt.", "THE IMAGE leaves THE TEXT and the TAPES.");
        PascalRows x = new PascalRows();
        feedAll(x, "p5");
        fill(x, 0, 2, 1, 2);
        fill(x, 1, 2, 3);
        x.image();
        due("the text stays by image()", x.count(3), 2);
        items(x, 0, 1, 2);
        feedAll(x, ";e2");
        x.item(0, 1, 9);
        x.tape(1, -1, 0);
        fill(x, 2, 0, 5);
        x.undo();
        due("the text stays by undo()", x.count(3), 5);
        items(x, 0, 1, 9);
        due("nothing stays nothing", x.item(1, 0, 1), NOTHING);
        items(x, 2, 5);
        due("the text is as it was fed", x.read(), 2);
        x.undo();
        due("what was read doesn't come again", x.count(3), 0);
    }

    private static void eventsAndMarks() {
        of("In doubt.", "EVENTS go by the numbers of MARKS as they are by then;");
        // By 2 rows 0 .. 7 have 27 places without a carry, 6 with one, 3 with two.
        PascalRows x = marking(new PascalRows(), 2, 0, 2, 1, 2, 2);
        x.event(3, 0);
        x.event(3, 0);
        due("marks 0 and 1 went", x.after(0), 3);
        x.event(-1, 0);
        x.event(3, 0);
        x.event(3, 1);
        due("marks 0 and 2 went", x.after(0), 6);
        x.event(-1, 0);
        x.event(3, 1);
        x.event(3, 2);
        due("mark 1 went, there was no 2 by then", x.after(0), 30);
        x.mark(2, 9);
        due("there is a 2 by then: what was 3", x.after(2), 2);
        x.clear();
        due("there is none by then", x.after(2), 0);
        x.mark(2, 1);
        x.mark(2, 2);
        due("as they are when it is asked", x.after(0), 6);
        of("In doubt.", "MARKS and THE WINDOW themselves stay as they are.");
        PascalRows y = marking(by(3, 2), 2, 0, 0, 1, 4, 0);
        y.window(40, 3);
        y.event(3, 0);
        y.event(2, 50);
        y.event(0, 0);
        y.event(1, 4);
        for (int what = 0; what < 3; what++) {
            y.after(what);
        }
        due("marks", y.told(3), 3);
        due("the first mark's kind", y.markOf(0, 0), 2);
        due("the second mark's v", y.markOf(1, 1), 1);
        due("the window's row", y.told(4), 40);
        due("the window's place", y.told(5), 3);
        due("M", y.told(2), 9);
        due("the events", y.count(1), 4);
    }

    private static void constants() {
        of("The constants:", "`NO = Long.MIN_VALUE`: There is no such number.");
        due("NO", PascalRows.NO, Long.MIN_VALUE);
        due("odds() of no row", furnished().odds(128, 0, 0, 0), Long.MIN_VALUE);
        due("mean() of no row", furnished().mean(128, 0), Long.MIN_VALUE);
        due("peek() of no tape", furnished().peek(6, 0), Long.MIN_VALUE);
        of("Answers:", "NONE (-1) no such number, row (0 .. 127), place (0 .. row);");
        due("NONE", PascalRows.NONE, -1);
        of("Answers:", "BAD (-2) a number is not as told;");
        due("BAD", PascalRows.BAD, -2);
        of("Answers:", "STATE (-3) as told;");
        due("STATE", PascalRows.STATE, -3);
        of("Answers:", "FULL (-4);");
        due("FULL", PascalRows.FULL, -4);
    }
}
