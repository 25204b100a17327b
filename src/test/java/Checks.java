import java.util.ArrayList;
import java.util.List;
import java.util.Set;
import java.util.TreeSet;

/** What the tests of sentences share: their counts, gorges to begin with, and what a refused call leaves alone. */
final class Checks {
    static final int PLAIN = 0, LISP = 1, HALF = 2, BIRD = 3, BLIND = 4, DULL = 5;
    /** The rows of STATUS. */
    static final int BAD = 0, NO = 1, FULL = 2;
    static final int MAX = Integer.MAX_VALUE, MIN = Integer.MIN_VALUE;
    static final int[] WRONG_TUNES = {3, 8, 15, 32, 63, 128, 255, 512, 1023, 2048, 0, 1, 2, -1, -4, -16, 4095,
        4096, 8191, 4 + (1 << 16), 4 + (1 << 30), 16 + MIN, MIN, MAX};
    static final int[] RIGHT_TUNES = {4, 7, 16, 31, 64, 127, 256, 511, 1024, 2047};
    static final int[] WRONG_PLACES = {-1, 6, MIN, MAX};
    static final int[] WRONG_WINDS = {-1, 4, MIN, MAX};

    interface Call {
        long on(WhistledNames x);
    }

    interface CallWith {
        long on(WhistledNames x, int number);
    }

    interface Gorge {
        WhistledNames make();
    }

    static int passed = 0;
    static int failed = 0;
    static final Set<String> failedSentences = new TreeSet<>();
    static boolean quiet = false;
    /** Each sentence tested, or said to name no boundary case, after its section's title. */
    static final List<String[]> quotes = new ArrayList<>();
    private static String section = "";
    private static String sentence = "";
    private static int checksOfSentence = 1;

    private Checks() {
    }

    // ---- sentences

    /** What follows is the test of this sentence of the document's, told in the document's own words. */
    static void says(String itsSection, String itsSentence) {
        endSentence();
        section = itsSection;
        sentence = itsSentence;
        checksOfSentence = 0;
        quotes.add(new String[] {section, sentence});
    }

    static void endSentence() {
        if (checksOfSentence == 0) {
            fail("is tested by nothing");
        }
        checksOfSentence = 1;
    }

    static void namesNoBoundary(String itsSection, String itsSentence) {
        quotes.add(new String[] {itsSection, itsSentence});
    }

    static void fail(String what) {
        failed++;
        failedSentences.add(section + ": " + sentence);
        if (!quiet) {
            System.out.println(section + ", \"" + sentence + "\": " + what);
        }
    }

    static void is(String what, long got, long due) {
        checksOfSentence++;
        if (got == due) {
            passed++;
        } else {
            fail(what + " answered " + got + ", due is " + due);
        }
    }

    static void same(String what, List<Long> got, List<Long> due) {
        checksOfSentence++;
        if (got.equals(due)) {
            passed++;
        } else {
            fail(what + ": seen is " + got + ", due is " + due);
        }
    }

    // ---- gorges

    static WhistledNames empty() {
        return new WhistledNames();
    }

    /** Something of all there can be, and room for more: 3 PEOPLE, 2 of THE DEAD, 2 CALLS, IMAGE 0. */
    static WhistledNames some() {
        WhistledNames x = new WhistledNames();
        x.hears(0, 1, 3);
        x.hears(1, 2, 1);
        x.hears(3, 5, 0);
        x.one(PLAIN, tune(0, 1), 0, 1);
        x.one(HALF, tune(1, 2, 3), 1, 1);
        x.one(BLIND, tune(2), 2, 3);
        x.dead(tune(3), 10);
        x.dead(tune(0, 0, 0, 0, 0), 0);
        x.whistle(0, tune(0, 1), 0);
        x.image(0);
        x.whistle(1, tune(1, 2), 1);
        x.move(2, 3);
        type(x, "one 5 2047 5 3;dead 4 99;");
        return x;
    }

    /** As much of all as there can be: 7 PEOPLE, 6 of THE DEAD, 8 CALLS, 200 bytes, both IMAGES. */
    static WhistledNames all() {
        WhistledNames x = withPeople(7);
        x.image(1);
        for (int p = 1; p < 6; p++) {
            x.hears(p, p - 1, 3);
        }
        for (int i = 0; i < 6; i++) {
            x.dead(4 + i % 4, 10 * i);
        }
        for (int i = 0; i < 8; i++) {
            x.whistle(i % 7 % 6, 4 + i % 7 % 4, 0);
        }
        x.image(0);
        x.hears(5, 0, 2);
        type(x, "hears 0 1 0;".repeat(16) + " ".repeat(8));
        return x;
    }

    static WhistledNames withOne(int ear, int tune) {
        WhistledNames x = new WhistledNames();
        x.one(ear, tune, 0, 0);
        return x;
    }

    /** Each PLAIN, at the PLACE of his number (the seventh with the first one), of one NOTE. */
    static WhistledNames withPeople(int people) {
        WhistledNames x = new WhistledNames();
        for (int i = 0; i < people; i++) {
            x.one(PLAIN, 4 + i % 4, i % 6, i % 4);
        }
        return x;
    }

    /** PEOPLE of one EAR at PLACE 0, no two of one KIN (up to four), with these TUNES. */
    static WhistledNames together(int ear, int... tunes) {
        WhistledNames x = new WhistledNames();
        for (int i = 0; i < tunes.length; i++) {
            x.one(ear, tunes[i], 0, i % 4);
        }
        return x;
    }

    static WhistledNames withText(String text) {
        WhistledNames x = new WhistledNames();
        type(x, text);
        return x;
    }

    static int tune(int... notes) {
        int tune = 1;
        for (int note : notes) {
            tune = 4 * tune + note;
        }
        return tune;
    }

    static void type(WhistledNames x, String text) {
        for (int at = 0; at < text.length(); at += 8) {
            int n = Math.min(8, text.length() - at);
            long v = 0;
            for (int i = 0; i < n; i++) {
                v = v << 8 | text.charAt(at + i);
            }
            x.type(v, n);
        }
    }

    // ---- what is seen of a gorge

    /** All that can be seen of it but for STATUS; it is another one afterwards. */
    private static List<Long> seenAfterStatus(WhistledNames x) {
        List<Long> seen = new ArrayList<>();
        for (int what = 0; what < 4; what++) {
            seen.add((long) x.count(what));
        }
        seen.add(x.digest());
        seen.add((long) x.read());
        seen.add(x.digest());
        for (int i = 0; i < 2; i++) {
            seen.add((long) x.from(i));
            seen.add(x.digest());
        }
        return seen;
    }

    /** All that can be seen of it, STATUS first; it is another one afterwards. */
    static List<Long> seen(WhistledNames x) {
        List<Long> seen = new ArrayList<>();
        for (int what = 0; what < 3; what++) {
            seen.add((long) x.status(what));
        }
        seen.addAll(seenAfterStatus(x));
        return seen;
    }

    // ---- refusals

    /** The call answers so, its row of STATUS has one more, and nothing else has changed. */
    static void refused(String what, Gorge gorge, int row, long answer, Call call) {
        WhistledNames x = gorge.make();
        is(what, call.on(x), answer);
        List<Long> due = seen(gorge.make());
        due.set(row, due.get(row) + 1);
        same(what + ", refused, changes nothing but STATUS", seen(x), due);
    }

    static void bad(String what, Gorge gorge, int[] numbers, CallWith call) {
        badAs(-2, what, gorge, numbers, call);
    }

    static void badAs(long answer, String what, Gorge gorge, int[] numbers, CallWith call) {
        for (int number : numbers) {
            refused(what + " " + number, gorge, BAD, answer, x -> call.on(x, number));
        }
    }

    /** As bad(), where there is nothing yet, where there is something, and where there is all there can be. */
    static void badAnywhere(String what, int[] numbers, CallWith call) {
        bad(what + ", nothing there yet,", Checks::empty, numbers, call);
        bad(what + ", something there,", Checks::some, numbers, call);
        bad(what + ", all there,", Checks::all, numbers, call);
    }

    /** A number of a PERSON, next to those there are, and far from them. */
    static void badPerson(String what, CallWith call) {
        badPersonAs(-2, what, call);
    }

    static void badPersonAs(long answer, String what, CallWith call) {
        badAs(answer, what + ", nobody there, of", Checks::empty, new int[] {0, -1, 1, MIN, MAX}, call);
        badAs(answer, what + ", three there, of", Checks::some, new int[] {-1, 3, 6, 7, MIN, MAX}, call);
        badAs(answer, what + ", all there, of", Checks::all, new int[] {-1, 7, 8, MIN, MAX}, call);
    }

    /** The call is taken: its answer is none of those below NONE, and STATUS stays. */
    static void taken(String what, Gorge gorge, int[] numbers, CallWith call) {
        for (int number : numbers) {
            WhistledNames x = gorge.make();
            int refusedAhead = refusedSoFar(x);
            long answer = call.on(x, number);
            is(what + " " + number + " is taken", answer < -1 ? answer : 0, 0);
            is(what + " " + number + ": refused", refusedSoFar(x) - refusedAhead, 0);
        }
    }

    static int refusedSoFar(WhistledNames x) {
        return x.status(0) + x.status(1) + x.status(2);
    }
}
