import java.math.BigInteger;
import java.nio.file.Files;
import java.nio.file.Path;
import java.util.Arrays;

/**
 * What the tests of the document's sentences share. A test says by of() which sentence it is of: the part of the
 * document and the sentence's words, which are looked up there. The end fails if a part has words that no test is of.
 * No object is asked more than 512 calls: what later calls answer is free.
 */
abstract class Sentences {
    static final int NONE = -1, BAD = -2, STATE = -3, FULL = -4, MISSING = -5;
    static final int NOTHING = -11, CAST = -12, PLACE = -13, SIZE = -14;
    static final long NO = Long.MIN_VALUE;
    static final int LEAST = Integer.MIN_VALUE, MOST = Integer.MAX_VALUE;
    static final int[] PRIMES = {2, 3, 5, 7};

    /** Tests take some seconds; a call that hasn't ended in so many won't end. */
    private static final int MOST_SECONDS = 120;
    private static final String DOCUMENT = document();
    private static final boolean[] TOLD = new boolean[DOCUMENT.length()];
    private static final BigInteger[][] TRIANGLE = triangle();

    private static volatile String sentence = "no sentence is named";
    private static int wrong = 0;

    /** A call of an object. */
    interface Call {
        long on(PascalRows x);
    }

    /** What makes an object, and calls it until it is as wanted. */
    interface Maker {
        PascalRows make();
    }

    // ---- the document's sentences

    /** A call that doesn't end is told with the sentence that it was made for. */
    static void begin() {
        Thread guard = new Thread(() -> {
            try {
                Thread.sleep(1000L * MOST_SECONDS);
            } catch (InterruptedException e) {
                return;
            }
            System.out.println("[" + sentence + "] a call doesn't end");
            Runtime.getRuntime().halt(1);
        });
        guard.setDaemon(true);
        guard.start();
    }

    private static String document() {
        try {
            return Files.readString(Path.of("../shared/DOC.md")).replaceAll("```\\w*", " ").replaceAll("\\s+", " ");
        } catch (java.io.IOException e) {
            throw new IllegalStateException("../shared/DOC.md can't be read", e);
        }
    }

    /** Where a part's sentences begin: behind its heading, and behind the face of the call that it tells of. */
    private static int beginOf(String part) {
        String heading = part.matches("[123]") ? "==== " + part + " " : part.startsWith("Promise") ? "## " + part + ":"
            : part.equals("What it is") ? "## What it is" : part;
        int begin = DOCUMENT.indexOf(heading);
        check(begin >= 0, "the document has the part " + part);
        return part.startsWith("Promise") ? DOCUMENT.indexOf("`: ", begin) + 3 : begin + heading.length();
    }

    private static int endOf(String part) {
        int begin = beginOf(part);
        int end = DOCUMENT.length();
        for (String next : new String[] {"## ", "==== ", "Answers:", "In doubt.", "The constants:", "Ahead of the calls"}) {
            int there = DOCUMENT.indexOf(next, begin);
            end = there >= 0 ? Math.min(end, there) : end;
        }
        return end;
    }

    /** Begins the test of a sentence: its part (a promise, a section) and its words. */
    static void of(String part, String words) {
        sentence = part + ": " + words;
        int at = DOCUMENT.indexOf(words, beginOf(part));
        boolean isThere = at >= 0 && at + words.length() <= endOf(part);
        check(isThere, "the document has these words there");
        if (isThere) {
            Arrays.fill(TOLD, at, at + words.length(), true);
        }
    }

    /** That each word of a part stands in a sentence that a test is of. */
    static void everySentenceIsTold(String part) {
        sentence = part;
        StringBuilder left = new StringBuilder();
        for (int i = beginOf(part); i < endOf(part); i++) {
            left.append(TOLD[i] ? ' ' : DOCUMENT.charAt(i));
        }
        check(!left.toString().matches(".*[A-Za-z0-9].*"), "no test is of: " + left.toString().trim());
    }

    static void check(boolean right, String what) {
        if (!right) {
            wrong++;
            System.out.println("[" + sentence + "] not so: " + what);
        }
    }

    static void due(String call, long got, long want) {
        if (got != want) {
            wrong++;
            System.out.println("[" + sentence + "] " + call + " answered " + got + ", due is " + want);
        }
    }

    static void end(String all) {
        System.out.println(wrong == 0 ? all : wrong + " answers are not as due");
        if (wrong != 0) {
            System.exit(1);
        }
    }

    // ---- objects

    static PascalRows by(int p, int e) {
        PascalRows x = new PascalRows();
        x.prime(p);
        x.power(e);
        return x;
    }

    static PascalRows marking(PascalRows x, int... kindsAndNumbers) {
        for (int i = 0; i < kindsAndNumbers.length; i += 2) {
            x.mark(kindsAndNumbers[i], kindsAndNumbers[i + 1]);
        }
        return x;
    }

    static void feedAll(PascalRows x, String text) {
        for (int i = 0; i < text.length(); i++) {
            x.feed(text.charAt(i));
        }
    }

    static int readAll(PascalRows x, String text) {
        feedAll(x, text);
        return x.read();
    }

    /** A TAPE of a sort that holds these items. */
    static void fill(PascalRows x, int tape, int sort, long... items) {
        x.tape(tape, sort, items.length);
        for (int i = 0; i < items.length; i++) {
            x.item(tape, i, items[i]);
        }
    }

    static void items(PascalRows x, int tape, long... items) {
        for (int i = 0; i < items.length; i++) {
            due("peek(" + tape + ", " + i + ")", x.peek(tape, i), items[i]);
        }
        due("peek(" + tape + ", " + items.length + ")", x.peek(tape, items.length), NO);
    }

    /** So many calls furnished() takes. */
    static final int FURNISHED_BY = 58;

    /** Something of everything; THE IMAGE has something else of everything; TAPE 5 holds nothing. */
    static PascalRows furnished() {
        PascalRows x = marking(by(5, 2), 0, 1, 2, 1);
        x.window(9, 3);
        x.see(6, 3, 20);
        x.event(1, 2);
        x.book(11, 11);
        x.image();
        x.prime(3);
        x.power(3);
        x.clear();
        marking(x, 2, 0, 0, 0, 1, 2);
        x.window(20, 5);
        x.see(-1, 0, 0);
        x.see(4, 2, 6);
        x.see(5, 1, 5);
        x.event(-1, 0);
        x.event(0, 0);
        x.event(2, 30);
        x.event(3, 1);
        x.book(-1, 0);
        x.book(10, 1);
        x.book(12, 66 % 27);
        feedAll(x, "p7;m41;w1,2");
        fill(x, 0, 0, 10, 11, 12);
        fill(x, 1, 1, 1, 3, 3, 1);
        fill(x, 2, 2, 20, 21, 22, 23);
        fill(x, 3, 3, 30, 31);
        fill(x, 4, 4, 1, 0, 1);
        return x;
    }

    /** All lists are full: MARKS, THE TEXT, SEEN, EVENTS, the BOOK. */
    static PascalRows brimful() {
        PascalRows x = marking(by(3, 2), 0, 1, 1, 1, 2, 0, 3, 1, 4, 0, 0, 2400);
        x.window(5, 2);
        for (int i = 0; i < 4; i++) {
            x.see(4, i, i == 0 ? 1 : 4);
        }
        for (int i = 0; i < 8; i++) {
            x.event(2, i);
            x.book(10 + i, 1);
        }
        for (int i = 0; i < 100; i++) {
            x.feed(i == 0 ? 'x' : ';');
        }
        x.image();
        return x;
    }

    // ---- what changes nothing

    /** That a call answers so, and leaves an object that holds something of everything as it was. */
    static void unmoved(String call, Call c, long want) {
        unmoved(Sentences::furnished, call, c, want);
    }

    static void unmoved(Maker maker, String call, Call c, long want) {
        PascalRows x = maker.make();
        due(call, c.on(x), want);
        String untouched = examined(maker.make());
        String touched = examined(x);
        check(touched.equals(untouched), call + " changes nothing:\n  " + untouched + " is\n  " + touched);
    }

    /** All that can be told of an object, in less than 250 calls; it is another one behind that. */
    static String examined(PascalRows x) {
        StringBuilder all = new StringBuilder();
        examineTapes(x, all);
        examineLists(x, all);
        add(all, "read", x.read());
        examineMarks(x, all);
        add(all, "undo", x.undo());
        examineLists(x, all);
        return all.toString();
    }

    private static void add(StringBuilder all, String name, long answer) {
        all.append(name).append(' ').append(answer).append("; ");
    }

    private static void examineMarks(PascalRows x, StringBuilder all) {
        for (int what = 0; what < 6; what++) {
            add(all, "told " + what, x.told(what));
        }
        for (int mark = 0; mark < 6; mark++) {
            add(all, "kind", x.markOf(mark, 0));
            add(all, "v", x.markOf(mark, 1));
        }
    }

    private static void examineLists(PascalRows x, StringBuilder all) {
        examineMarks(x, all);
        for (int what = 0; what < 4; what++) {
            add(all, "count " + what, x.count(what));
        }
        int e = x.told(1);
        for (int power = 1; power <= 4; power++) {
            x.power(power);
            add(all, "fits", x.fits());
            add(all, "looked", x.looked());
            for (int what = 0; what < 3; what++) {
                add(all, "after " + what, x.after(what));
            }
        }
        x.power(e);
    }

    private static void examineTapes(PascalRows x, StringBuilder all) {
        for (int tape = 0; tape < 6; tape++) {
            long item = 0;
            for (int i = 0; i < 10 && item != NO; i++) {
                item = x.peek(tape, i);
                add(all, "peek " + tape, item);
            }
            // What a tape's sort cuts off tells which one it is.
            add(all, "item", x.item(tape, 0, 0x7654321087654321L));
            add(all, "cut", x.peek(tape, 0));
        }
    }

    // ---- what stands in the triangle, with whole numbers

    private static BigInteger[][] triangle() {
        BigInteger[][] rows = new BigInteger[128][];
        for (int i = 0; i < 128; i++) {
            rows[i] = new BigInteger[i + 1];
            for (int k = 0; k <= i; k++) {
                rows[i][k] = k == 0 || k == i ? BigInteger.ONE : rows[i - 1][k - 1].add(rows[i - 1][k]);
            }
        }
        return rows;
    }

    /** REMAINDER by any modulus; 0 beyond a row or the rows. */
    static int remainder(int i, int k, int modulus) {
        boolean isThere = i >= 0 && i <= 127 && k >= 0 && k <= i;
        return isThere ? TRIANGLE[i][k].mod(BigInteger.valueOf(modulus)).intValueExact() : 0;
    }
}
