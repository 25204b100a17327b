import java.util.function.LongSupplier;

/** For each promise: ordinary inputs, the edges that the document names, and wrong inputs. */
public final class PromiseTests {
    private static final int PLAIN = 0, LISP = 1, HALF = 2, BIRD = 3, BLIND = 4, DULL = 5;
    private static final int BAD = 0, NO = 1, FULL = 2;
    private static final int MAX = Integer.MAX_VALUE, MIN = Integer.MIN_VALUE;

    private static int passed = 0;
    private static int failed = 0;
    private static int promise = 0;

    public static void main(String[] args) {
        constants();
        newObject();
        hears();
        one();
        rename();
        move();
        dead();
        comes();
        type();
        clear();
        readItems();
        readFaults();
        readRefused();
        callAndHearing();
        callByEars();
        whistle();
        turned();
        heardOf();
        undo();
        taken();
        clash();
        alter();
        names();
        namesForMany();
        bride();
        thief();
        whistled();
        word();
        free();
        image();
        from();
        status();
        count();
        digest();
        System.out.println("PromiseTests: " + passed + " passed, " + failed + " failed");
        System.exit(failed == 0 ? 0 : 1);
    }

    // ---- helpers

    private static void is(String what, long got, long due) {
        if (got == due) {
            passed++;
        } else {
            failed++;
            System.out.println("promise " + promise + ": " + what + " answered " + got + ", due is " + due);
        }
    }

    /** The answer is due, its row of STATUS has one more, and nothing else has changed. */
    private static void refuses(String what, WhistledNames x, int row, long due, LongSupplier call) {
        long digest = x.digest();
        int[] before = {x.status(0), x.status(1), x.status(2)};
        is(what, call.getAsLong(), due);
        before[row]++;
        is(what + ": the digest after it", x.digest(), digest);
        for (int i = 0; i < 3; i++) {
            is(what + ": status " + i + " after it", x.status(i), before[i]);
        }
    }

    private static void bad(String what, WhistledNames x, LongSupplier call) {
        refuses(what, x, BAD, -2, call);
    }

    private static void no(String what, WhistledNames x, LongSupplier call) {
        refuses(what, x, NO, -3, call);
    }

    private static void full(String what, WhistledNames x, LongSupplier call) {
        refuses(what, x, FULL, -4, call);
    }

    /** Tells notes as a number, as the document does. */
    private static int tune(int... notes) {
        int tune = 1;
        for (int note : notes) {
            tune = 4 * tune + note;
        }
        return tune;
    }

    private static void type(WhistledNames x, String text) {
        for (int i = 0; i < text.length(); i++) {
            x.type(text.charAt(i), 1);
        }
    }

    private static void readIs(String text, int due) {
        WhistledNames x = new WhistledNames();
        for (int at = 0; at < text.length(); at += 8) {
            long v = -1;
            int n = Math.min(8, text.length() - at);
            for (int i = 0; i < n; i++) {
                v = v << 8 | text.charAt(at + i);
            }
            x.type(v, n);
        }
        is("the text's length", x.count(3), text.length());
        is("read of '" + text + "'", x.read(), due);
        is("status after read", x.status(0) + x.status(1) + x.status(2), 0);
    }

    private static WhistledNames withOne(int ear, int tune) {
        WhistledNames x = new WhistledNames();
        x.one(ear, tune, 0, 0);
        return x;
    }

    private static WhistledNames withMany(int people) {
        WhistledNames x = new WhistledNames();
        for (int i = 0; i < people; i++) {
            x.one(PLAIN, 4 + i % 4, i % 6, i % 4);
        }
        return x;
    }

    /** Whether one who has that ear and tune turns at another tune. */
    private static void turns(String what, int ear, int own, int whistled, int wind, boolean due) {
        is(what, withOne(ear, own).call(0, whistled, wind), due ? 1 : 0);
    }

    // ---- a gorge

    private static void constants() {
        is("NONE", WhistledNames.NONE, -1);
        is("BAD", WhistledNames.BAD, -2);
        is("NO", WhistledNames.NO, -3);
        is("FULL", WhistledNames.FULL, -4);
    }

    private static void newObject() {
        promise = 1;
        WhistledNames x = new WhistledNames();
        for (int what = 0; what < 4; what++) {
            is("count(" + what + ")", x.count(what), 0);
        }
        for (int what = 0; what < 3; what++) {
            is("status(" + what + ")", x.status(what), 0);
        }
        for (int p = 1; p < 6; p++) {
            for (int q = 0; q < p; q++) {
                is("hears(" + p + ", " + q + ")", x.hears(p, q, -1), -1);
            }
        }
        WhistledNames other = new WhistledNames();
        other.one(0, 4, 0, 0);
        is("another object has nothing of it", x.count(0), 0);
        no("no image yet", x, () -> x.from(0));
        no("no image yet", x, () -> x.from(1));
    }

    private static void hears() {
        promise = 2;
        WhistledNames x = new WhistledNames();
        is("first", x.hears(0, 5, 3), -1);
        is("either way", x.hears(5, 0, 0), 3);
        is("again", x.hears(0, 5, -1), 0);
        is("not any more", x.hears(0, 5, 2), -1);
        is("another pair", x.hears(1, 0, 1), -1);
        is("alike", x.hears(1, 0, 1), 1);
        int[][] wrong = {{0, 0, 1}, {5, 5, -1}, {-1, 0, 0}, {0, -1, 0}, {6, 0, 0}, {0, 6, 0}, {0, 1, -2},
            {0, 1, 4}, {MAX, 0, 0}, {0, MIN, 0}, {0, 1, MAX}, {0, 1, MIN}, {7, 7, 0}};
        for (int[] w : wrong) {
            refuses("hears " + w[0] + " " + w[1] + " " + w[2], x, BAD, -10, () -> x.hears(w[0], w[1], w[2]));
        }
    }

    private static void one() {
        promise = 3;
        WhistledNames x = new WhistledNames();
        int[][] wrong = {{-1, 4, 0, 0}, {6, 4, 0, 0}, {0, 3, 0, 0}, {0, 8, 0, 0}, {0, 15, 0, 0}, {0, 32, 0, 0},
            {0, 63, 0, 0}, {0, 128, 0, 0}, {0, 255, 0, 0}, {0, 512, 0, 0}, {0, 1023, 0, 0}, {0, 2048, 0, 0},
            {0, 4, -1, 0}, {0, 4, 6, 0}, {0, 4, 0, -1}, {0, 4, 0, 4}, {MAX, 4, 0, 0}, {0, MAX, 0, 0},
            {0, 4, MAX, 0}, {0, 4, 0, MAX}, {MIN, MIN, MIN, MIN}, {0, 0, 0, 0}, {0, 1, 0, 0}, {0, -4, 0, 0}};
        for (int[] w : wrong) {
            bad("one " + w[0] + " " + w[1] + " " + w[2] + " " + w[3], x, () -> x.one(w[0], w[1], w[2], w[3]));
        }
        int[] tunes = {4, 31, 64, 127, 256, 1024, 2047};
        for (int i = 0; i < 7; i++) {
            is("person " + i, x.one(i % 6, tunes[i], i % 6, i % 4), i);
        }
        is("all seven", x.count(0), 7);
        full("an eighth one", x, () -> x.one(0, 4, 0, 0));
        bad("BAD comes ahead of FULL", x, () -> x.one(0, 4, 0, 4));
    }

    private static void rename() {
        promise = 4;
        WhistledNames x = withOne(PLAIN, 4);
        is("what it was", x.rename(0, 2047), 4);
        is("what it was then", x.rename(0, 511), 2047);
        is("his call", x.call(0, 511, 0), 1);
        is("his old one", x.call(0, 2047, 0), 0);
        int[][] wrong = {{-1, 4}, {1, 4}, {0, 3}, {0, 8}, {0, 2048}, {MAX, 4}, {0, MAX}, {MIN, 4}, {0, MIN}};
        for (int[] w : wrong) {
            bad("rename " + w[0] + " " + w[1], x, () -> x.rename(w[0], w[1]));
        }
        WhistledNames nobody = new WhistledNames();
        bad("nobody", nobody, () -> nobody.rename(0, 4));
    }

    private static void move() {
        promise = 5;
        WhistledNames x = withOne(PLAIN, 4);
        is("where he was", x.move(0, 5), 0);
        is("where he was then", x.move(0, 0), 5);
        is("stays", x.move(0, 0), 0);
        x.move(0, 3);
        is("not there", x.call(0, 4, 0), 0);
        is("there", x.call(3, 4, 0), 1);
        int[][] wrong = {{-1, 0}, {1, 0}, {0, -1}, {0, 6}, {MAX, 0}, {0, MAX}, {0, MIN}};
        for (int[] w : wrong) {
            bad("move " + w[0] + " " + w[1], x, () -> x.move(w[0], w[1]));
        }
    }

    private static void dead() {
        promise = 6;
        WhistledNames x = new WhistledNames();
        int[][] wrong = {{3, 0}, {8, 0}, {2048, 0}, {4, -1}, {4, 100}, {MAX, 0}, {4, MAX}, {4, MIN}};
        for (int[] w : wrong) {
            bad("dead " + w[0] + " " + w[1], x, () -> x.dead(w[0], w[1]));
        }
        for (int i = 0; i < 6; i++) {
            is("number " + i, x.dead(4, i == 0 ? 99 : 0), i);
        }
        full("a seventh", x, () -> x.dead(4, 0));
        bad("BAD comes ahead of FULL", x, () -> x.dead(4, 100));
    }

    private static void comes() {
        promise = 7;
        WhistledNames x = new WhistledNames();
        int all = tune(0, 1, 2, 3, 0);
        is("wind 0", x.comes(all, 0), all);
        is("wind 1", x.comes(all, 1), tune(0, 1, 2, 0));
        is("wind 2", x.comes(all, 2), tune(0, 1, 0));
        is("wind 3", x.comes(all, 3), tune(0, 0));
        is("nothing", x.comes(2047, 1), 1);
        is("one note", x.comes(7, 0), 7);
        is("the least", x.comes(4, 3), 4);
        is("the greatest", x.comes(2047, 0), 2047);
        int[][] wrong = {{0, 0}, {1, 0}, {3, 0}, {8, 0}, {15, 0}, {2048, 0}, {4, -1}, {4, 4}, {-1, 0}, {MAX, 0},
            {MIN, 0}, {4, MAX}, {4, MIN}};
        for (int[] w : wrong) {
            bad("comes " + w[0] + " " + w[1], x, () -> x.comes(w[0], w[1]));
        }
    }

    private static void type() {
        promise = 8;
        WhistledNames x = new WhistledNames();
        bad("n 0", x, () -> x.type(5, 0));
        bad("n 9", x, () -> x.type(5, 9));
        bad("n -1", x, () -> x.type(5, -1));
        bad("n greatest", x, () -> x.type(5, MAX));
        bad("n least", x, () -> x.type(5, MIN));
        is("the lowest bytes alone", x.type(0x7a646561L, 3), 3);
        is("the highest of them first", x.type(0x643420303bL, 5), 8);
        x.clear();
        x.type(0x6465616420342030L, 8);
        x.type(0xffff3b, 1);
        is("as typed", x.read(), 1);
        x.clear();
        for (int i = 1; i <= 24; i++) {
            is("eight more", x.type(-1, 8), 8 * i);
        }
        is("192 and 7", x.type(-1, 7), 199);
        full("two more than there is room for", x, () -> x.type(0, 2));
        full("eight", x, () -> x.type(0, 8));
        bad("BAD comes ahead of FULL", x, () -> x.type(0, 9));
        is("the last one", x.type(0, 1), 200);
        full("one more", x, () -> x.type(0, 1));
    }

    private static void clear() {
        promise = 9;
        WhistledNames x = new WhistledNames();
        is("empty", x.clear(), 0);
        x.type(0, 8);
        x.one(0, 4, 0, 0);
        is("how many it had", x.clear(), 8);
        is("then none", x.clear(), 0);
        is("count", x.count(3), 0);
        is("the gorge stays", x.count(0), 1);
        for (int i = 0; i < 25; i++) {
            x.type(0, 8);
        }
        is("the full one", x.clear(), 200);
        is("there is room again", x.type(0, 8), 8);
    }

    private static void readItems() {
        promise = 10;
        readIs("", 0);
        readIs("   ", 0);
        readIs("hears 0 1 2;", 1);
        readIs(" hears0 1 2 ;one 5 2047 5 3;dead4 99; ", 3);
        readIs("one 0 0004 0 0;", 1);
        readIs("one0 4 0 0;dead4 0;dead4 0;dead4 0;dead4 0;dead4 0;dead4 0;", 7);
        WhistledNames x = withMany(7);
        x.dead(4, 0);
        x.hears(0, 1, 3);
        x.whistle(0, 4, 0);
        x.image(0);
        x.count(9);
        type(x, "one 1 5 2 3;hears 3 2 1;one 0 6 1 2;dead 31 77;");
        is("items", x.read(), 4);
        is("people", x.count(0), 2);
        is("dead", x.count(1), 1);
        is("no calls", x.count(2), 0);
        is("the text stays", x.count(3), 47);
        is("status stays", x.status(0), 1);
        is("hears told", x.hears(2, 3, -1), 1);
        is("hears of before", x.hears(0, 1, -1), -1);
        is("tune 0", x.rename(0, 4), 5);
        is("tune 1", x.rename(1, 4), 6);
        is("place 0", x.move(0, 0), 2);
        is("place 1", x.move(1, 0), 1);
        x.from(0);
        is("images stay", x.count(0), 7);
        is("images stay", x.count(2), 1);
        is("read again", x.read(), 4);
        long digest = x.digest();
        type(x, "one 0 4 0 0;one 9 4 0 0;");
        is("refused after one that was read", x.read(), -1005);
        x.type('?', 1);
        is("a fault after one that was read", x.read(), -81);
        x.clear();
        type(x, " ".repeat(47));
        is("nothing has changed", x.digest(), digest);
        x.clear();
        is("read of nothing", x.read(), 0);
        is("nobody", x.count(0) + x.count(1) + x.count(2), 0);
    }

    private static void readFaults() {
        promise = 10;
        readIs("hear 0 1 2;", -10);
        readIs("  hearss 0 1 2;", -12);
        readIs("One 0 4 0 0;", -10);
        readIs("oneX0 4 0 0;", -13);
        readIs("onez 0 4 0 0;", -10);
        readIs("aone 0 4 0 0;", -10);
        readIs("gears 0 1 2;", -10);
        readIs("hearz 0 1 2;", -10);
        readIs("ond 0 4 0 0;", -10);
        readIs("bead 4 0;", -10);
        readIs("dead`4 0;", -14);
        readIs("dead{4 0;", -14);
        readIs("dead/4 0;", -14);
        readIs("dead 4:0;", -16);
        readIs("7", -10);
        readIs(";", -10);
        readIs("dead 4 0;;", -19);
        readIs("dead 4 0 0;", -19);
        readIs("dead 4;", -16);
        readIs("dead dead 4 0;", -15);
        readIs("dead 4 0 dead", -19);
        readIs("dead 4 12345;", -17);
        readIs("dead 4 00000;", -17);
        readIs("dead 4 0 99999", -19);
        readIs("dead 4-1;", -16);
        readIs("dead 4\t0;", -16);
        readIs("dead 4 0\0", -18);
        readIs("dead 4 0;\u00ff", -19);
        readIs("dead", -14);
        readIs("dead  ", -16);
        readIs("dead 4 0", -18);
        readIs("dead 4 0;one", -22);
        readIs("one 0 4 0 0", -21);
        readIs("hears 0 1 2 3;", -22);
        readIs("hears 0 0 9;dead;", -26);
        readIs("deadone 4 0;", -10);
        readIs("dead 4 0;".repeat(22) + "x;", -208);
        readIs(" ".repeat(199) + "x", -209);
        readIs(" ".repeat(196) + "dead", -210);
        readIs(" ".repeat(200), 0);
        WhistledNames x = withMany(3);
        x.whistle(0, 4, 0);
        type(x, "dead 4 0;?");
        long digest = x.digest();
        is("a fault", x.read(), -19);
        is("nothing changes", x.digest(), digest);
    }

    private static void readRefused() {
        promise = 10;
        readIs("hears 0 0 1;", -1000);
        readIs("hears 0 6 1;", -1000);
        readIs("hears 6 0 1;", -1000);
        readIs("hears 0 1 4;", -1000);
        readIs("dead 4 0;hears 0 9999 1;dead 8 0;", -1001);
        readIs("one 6 4 0 0;", -1000);
        readIs("one 0 8 0 0;", -1000);
        readIs("one 0 4 6 0;", -1000);
        readIs("one 0 4 0 4;", -1000);
        readIs("dead 4 100;", -1000);
        readIs("dead 3 0;", -1000);
        readIs("one 0 4 0 0;".repeat(8), -1007);
        readIs("dead 4 0;".repeat(7), -1006);
        readIs("dead4 0;".repeat(25), -1006);
        readIs("hears 0 1 0;".repeat(16), 16);
        WhistledNames x = withMany(3);
        x.whistle(0, 4, 0);
        type(x, "dead 4 0;one 0 4 0 9;");
        long digest = x.digest();
        is("a refused item", x.read(), -1001);
        is("nothing changes", x.digest(), digest);
        is("items count in no status", x.status(0) + x.status(1) + x.status(2), 0);
    }

    // ---- calls

    private static void callAndHearing() {
        promise = 11;
        WhistledNames x = new WhistledNames();
        is("nobody", x.call(0, 4, 0), 0);
        for (int i = 0; i < 6; i++) {
            x.one(PLAIN, 4, i, 0);
        }
        x.one(PLAIN, 4, 5, 0);
        is("those there", x.call(5, 4, 0), 96);
        x.hears(0, 1, 0);
        x.hears(2, 0, 2);
        x.hears(3, 0, 3);
        x.hears(4, 3, 3);
        is("wind 0", x.call(0, 4, 0), 15);
        is("wind 1", x.call(0, 4, 1), 13);
        is("wind 2", x.call(0, 4, 2), 13);
        is("wind 3", x.call(0, 4, 3), 9);
        is("either way", x.call(2, 4, 2), 5);
        is("not by way of a third place", x.call(4, 4, 3), 24);
        int[][] wrong = {{-1, 4, 0}, {6, 4, 0}, {0, 3, 0}, {0, 8, 0}, {0, 4, -1}, {0, 4, 4}, {MAX, 4, 0},
            {0, MAX, 0}, {0, 4, MAX}, {MIN, MIN, MIN}};
        for (int[] w : wrong) {
            bad("call " + w[0] + " " + w[1] + " " + w[2], x, () -> x.call(w[0], w[1], w[2]));
        }
    }

    private static void callByEars() {
        promise = 11;
        turns("plain", PLAIN, tune(1, 2, 3), tune(1, 2, 3), 0, true);
        turns("plain, another", PLAIN, tune(1, 2, 3), tune(1, 2, 2), 0, false);
        turns("plain, lost alike", PLAIN, tune(1, 3, 2), tune(1, 2), 1, true);
        turns("plain, nothing", PLAIN, tune(3), tune(3), 1, false);
        turns("plain, nothing left", PLAIN, tune(3, 3), tune(3), 2, false);
        turns("plain, half lost", PLAIN, tune(3, 0), tune(3, 0), 1, true);
        turns("lisp, heard", LISP, tune(1, 0), tune(2, 0), 0, true);
        turns("lisp, own", LISP, tune(2, 0), tune(1, 0), 0, true);
        turns("lisp, 3", LISP, tune(2, 0), tune(3, 0), 0, false);
        turns("lisp, after what is lost", LISP, tune(2, 0), tune(1, 0), 2, false);
        turns("lisp, nothing", LISP, tune(2), tune(2), 2, false);
        turns("half of 4", HALF, tune(1, 2, 3, 0), tune(1, 2), 0, true);
        turns("half of 4, more", HALF, tune(1, 2, 3, 0), tune(1, 2, 0, 0, 0), 0, true);
        turns("half of 4, less", HALF, tune(1, 2, 3, 0), tune(1), 0, false);
        turns("half of 5", HALF, tune(1, 2, 3, 0, 0), tune(1, 2), 0, false);
        turns("half of 5, a middle one", HALF, tune(1, 2, 3, 0, 0), tune(1, 2, 3), 0, true);
        turns("half of 1", HALF, tune(1), tune(1, 3), 0, true);
        turns("half of 3", HALF, tune(1, 0, 3), tune(1, 0), 0, true);
        turns("half, not lisping", HALF, tune(1), tune(2), 0, false);
        turns("half less lost", HALF, tune(1, 3, 0, 0), tune(1, 2), 1, true);
        turns("half all lost", HALF, tune(3, 0), tune(3, 0), 1, false);
        turns("half, nothing comes", HALF, tune(0, 0), tune(3), 1, false);
        turns("half before what is lost", HALF, tune(3, 0, 1, 1), tune(1, 1), 1, false);
        turns("bird, lisping", BIRD, tune(2, 1), tune(1, 2), 0, true);
        turns("bird, as many, same last", BIRD, tune(0, 3), tune(1, 3), 0, true);
        turns("bird, the last lisped", BIRD, tune(0, 2), tune(3, 1), 0, false);
        turns("bird, fewer", BIRD, tune(0, 3), tune(3), 0, false);
        turns("bird, as many left", BIRD, tune(0, 3), tune(0), 1, true);
        turns("bird, as many of those left", BIRD, tune(1, 3, 0), tune(0, 0), 1, true);
        turns("bird, nothing", BIRD, tune(3), tune(3), 1, false);
        turns("blind", BLIND, tune(3), tune(3), 3, true);
        turns("blind, as it was whistled", BLIND, tune(1), tune(1, 3), 1, false);
        turns("blind, no half", BLIND, tune(1, 1), tune(1), 0, false);
        turns("dull", DULL, tune(1, 2), tune(1), 1, true);
        turns("dull, more", DULL, tune(0, 1), tune(0, 3), 0, true);
        turns("dull in wind 2", DULL, tune(0), tune(0), 2, false);
        turns("dull in wind 3", DULL, tune(0), tune(0), 3, false);
        turns("half in wind 3", HALF, tune(0), tune(0), 3, true);
    }

    private static void whistle() {
        promise = 12;
        WhistledNames x = withOne(PLAIN, 4);
        for (int i = 0; i < 8; i++) {
            is("number", x.whistle(0, i == 0 ? 4 : 2047, i % 4), i);
        }
        full("a ninth", x, () -> x.whistle(0, 4, 0));
        int[][] wrong = {{-1, 4, 0}, {6, 4, 0}, {0, 3, 0}, {0, 8, 0}, {0, 4, -1}, {0, 4, 4}, {MAX, MAX, MAX}};
        for (int[] w : wrong) {
            bad("whistle, BAD ahead of FULL", x, () -> x.whistle(w[0], w[1], w[2]));
        }
        x.undo();
        for (int[] w : wrong) {
            bad("whistle " + w[0] + " " + w[1] + " " + w[2], x, () -> x.whistle(w[0], w[1], w[2]));
        }
        is("room again", x.whistle(0, 4, 0), 7);
    }

    private static void turned() {
        promise = 13;
        WhistledNames x = withOne(PLAIN, 4);
        bad("none yet", x, () -> x.turned(0));
        x.whistle(0, 4, 0);
        x.whistle(1, 4, 0);
        x.one(PLAIN, 4, 0, 0);
        x.whistle(0, 4, 3);
        is("first", x.turned(0), 1);
        is("second", x.turned(1), 0);
        is("third", x.turned(2), 3);
        x.rename(0, 5);
        x.move(1, 5);
        is("as it was then", x.turned(2), 3);
        int[] wrong = {-1, 3, 8, MAX, MIN};
        for (int w : wrong) {
            bad("turned " + w, x, () -> x.turned(w));
        }
        x.undo();
        bad("undone", x, () -> x.turned(2));
    }

    private static void heardOf() {
        promise = 14;
        WhistledNames x = withOne(PLAIN, 4);
        x.one(LISP, 5, 0, 0);
        is("no calls", x.heardOf(0), 0);
        x.whistle(0, 4, 0);
        x.whistle(0, 5, 0);
        x.whistle(0, 6, 0);
        is("of one", x.heardOf(0), 1);
        is("of the other one", x.heardOf(1), 2);
        x.undo();
        is("less the one undone", x.heardOf(1), 1);
        x.rename(1, 4);
        is("as it was then", x.heardOf(1), 1);
        int[] wrong = {-1, 2, 7, MAX, MIN};
        for (int w : wrong) {
            bad("heardOf " + w, x, () -> x.heardOf(w));
        }
    }

    private static void undo() {
        promise = 15;
        WhistledNames x = withOne(PLAIN, 4);
        no("none", x, () -> x.undo());
        long none = x.digest();
        x.whistle(0, 4, 0);
        long first = x.digest();
        x.whistle(0, 5, 0);
        is("one left", x.undo(), 1);
        is("as after the first", x.digest(), first);
        is("none left", x.undo(), 0);
        is("as before the first", x.digest(), none);
        no("none left", x, () -> x.undo());
    }

    // ---- tunes for all

    private static void taken() {
        promise = 16;
        WhistledNames x = new WhistledNames();
        x.one(PLAIN, tune(1, 0), 0, 0);
        x.one(HALF, tune(1, 3), 0, 0);
        is("a half of it", x.taken(0, 1), 1);
        is("not the other way", x.taken(1, 0), 0);
        x.move(1, 1);
        is("not heard", x.taken(0, 1), 0);
        x.hears(2, 0, 1);
        is("heard at one's alone", x.taken(0, 1), 0);
        x.hears(2, 1, 0);
        is("heard from a third place", x.taken(0, 1), 1);
        x.rename(1, tune(1, 0));
        x.rename(0, tune(1, 3));
        is("not in wind 0", x.taken(1, 0), 0);
        x.rename(1, tune(1));
        is("wind 1 is too much", x.taken(1, 0), 0);
        x.hears(2, 1, 1);
        is("by wind 1", x.taken(1, 0), 1);
        x.hears(2, 1, -1);
        x.hears(0, 1, 3);
        x.rename(1, tune(1));
        is("heard from one's place", x.taken(1, 0), 1);
        int[][] wrong = {{0, 0}, {1, 1}, {-1, 0}, {0, -1}, {2, 0}, {0, 2}, {MAX, 0}, {0, MAX}, {MIN, MIN}};
        for (int[] w : wrong) {
            bad("taken " + w[0] + " " + w[1], x, () -> x.taken(w[0], w[1]));
        }
    }

    private static void clash() {
        promise = 17;
        WhistledNames x = new WhistledNames();
        is("nobody", x.clash(0), 0);
        no("nobody", x, () -> x.clash(1));
        x.one(PLAIN, 4, 0, 0);
        x.one(PLAIN, 5, 0, 0);
        x.one(LISP, 6, 0, 0);
        is("one way", x.clash(0), 1);
        is("the first", x.clash(1), 12);
        x.one(PLAIN, 4, 0, 0);
        is("two", x.clash(0), 2);
        is("the first of two", x.clash(1), 3);
        bad("what 2", x, () -> x.clash(2));
        bad("what -1", x, () -> x.clash(-1));
        bad("what greatest", x, () -> x.clash(MAX));
        x.rename(3, 7);
        x.rename(2, 31);
        is("none", x.clash(0), 0);
        no("none", x, () -> x.clash(1));
        for (int i = 4; i < 7; i++) {
            x.one(PLAIN, 4, 0, 0);
        }
        for (int i = 0; i < 7; i++) {
            x.rename(i, 4);
        }
        is("all seven", x.clash(0), 21);
        is("all seven, the first", x.clash(1), 1);
    }

    private static void alter() {
        promise = 18;
        WhistledNames x = new WhistledNames();
        is("nobody", x.alter(), 0);
        x.one(PLAIN, 4, 0, 0);
        is("one", x.alter(), 0);
        x.one(PLAIN, 5, 1, 0);
        is("no pair", x.alter(), 0);
        x.one(PLAIN, 5, 1, 0);
        is("the least of like ones", x.alter(), 2);
        x.rename(0, 5);
        x.hears(0, 5, 3);
        x.move(0, 1);
        is("two of three", x.alter(), 3);
        for (int i = 3; i < 7; i++) {
            x.one(PLAIN, 5, 1, 0);
        }
        is("six of seven", x.alter(), 63);
        WhistledNames star = new WhistledNames();
        star.one(PLAIN, tune(1, 0), 0, 0);
        star.one(PLAIN, tune(1, 0, 0), 0, 0);
        star.one(PLAIN, tune(1, 0, 0, 0), 0, 0);
        star.one(HALF, tune(1, 1), 0, 0);
        is("all are taken for one's", star.clash(0), 3);
        is("so he alone", star.alter(), 8);
        star.rename(3, tune(2, 2));
        is("no pair any more", star.alter(), 0);
    }

    private static void names() {
        promise = 19;
        WhistledNames x = new WhistledNames();
        is("nobody", x.names(-1), 0);
        refuses("nobody's", x, BAD, -10, () -> x.names(0));
        refuses("-2", x, BAD, -10, () -> x.names(-2));
        x.one(PLAIN, 2047, 0, 0);
        is("one", x.names(-1), 1);
        is("one's", x.names(0), 4);
        x.one(PLAIN, 2047, 0, 1);
        is("two", x.names(-1), 2);
        is("0's", x.names(0), 4);
        is("1's", x.names(1), 5);
        long digest = x.digest();
        x.names(-1);
        is("nobody's tune is changed", x.digest(), digest);
        x.one(PLAIN, 2047, 0, 0);
        is("kin", x.names(-1), 4);
        is("kin 0", x.names(0), 4);
        is("another's", x.names(1), 5);
        is("kin 2", x.names(2), 16);
        x.move(2, 1);
        is("kin not heard", x.names(-1), 3);
        is("kin not heard 0", x.names(0), 4);
        is("kin not heard 1", x.names(1), 5);
        is("kin not heard 2", x.names(2), 4);
        refuses("one there is not", x, BAD, -10, () -> x.names(3));
        refuses("the greatest", x, BAD, -10, () -> x.names(MAX));
        refuses("the least", x, BAD, -10, () -> x.names(MIN));
        WhistledNames halves = new WhistledNames();
        halves.one(HALF, 4, 0, 2);
        halves.one(HALF, 4, 0, 2);
        is("there are none", halves.names(-1), -1);
        is("there are none for one", halves.names(0), -1);
        is("none changes no status", halves.status(0) + halves.status(1) + halves.status(2), 0);
    }

    private static void namesForMany() {
        promise = 19;
        // In wind 3 of 0 1 just 0 is left; of 1 and of 1 1 nothing is.
        threeKin(2, 4, 16, 17);
        threeKin(3, 5, 20, 21);
        WhistledNames x = new WhistledNames();
        for (int i = 0; i < 5; i++) {
            x.one(PLAIN, 4, 0, i % 4);
        }
        is("five", x.names(-1), 6);
        // 0 and 4 are kin; 1, 2 and 3 have the other one's three notes.
        int[] due = {4, 5, 6, 7, 16};
        for (int i = 0; i < 5; i++) {
            is("of five, " + i, x.names(i), due[i]);
        }
        refuses("of five, 5", x, BAD, -10, () -> x.names(5));
        x.one(PLAIN, 4, 0, 0);
        refuses("six", x, NO, -20, () -> x.names(-1));
        refuses("six, one's", x, NO, -20, () -> x.names(5));
        refuses("BAD ahead of NO", x, BAD, -10, () -> x.names(6));
        x.one(PLAIN, 4, 0, 0);
        refuses("seven", x, NO, -20, () -> x.names(6));
        WhistledNames kin = new WhistledNames();
        for (int i = 0; i < 5; i++) {
            kin.one(PLAIN, 4, 0, 0);
        }
        is("five kin", kin.names(-1), 9);
        is("the first of five kin", kin.names(0), 7);
        is("the last of five kin", kin.names(4), 31);
        WhistledNames apart = new WhistledNames();
        for (int i = 0; i < 5; i++) {
            apart.one(BIRD, 4, i, 0);
        }
        is("five apart", apart.names(-1), 5);
        is("five apart, the last", apart.names(4), 4);
    }

    private static void threeKin(int wind, int first, int second, int third) {
        WhistledNames x = new WhistledNames();
        for (int i = 0; i < 3; i++) {
            x.one(PLAIN, 4, i, 3);
            x.hears(i, (i + 1) % 3, wind);
        }
        is("three kin, by wind " + wind, x.names(-1), 5);
        is("the first of them", x.names(0), first);
        is("the second", x.names(1), second);
        is("the third", x.names(2), third);
    }

    private static void bride() {
        promise = 20;
        WhistledNames x = withOne(PLAIN, tune(2, 3, 3));
        is("alone", x.bride(0), tune(2, 0, 0));
        is("she keeps hers", x.rename(0, tune(2, 3, 3)), tune(2, 3, 3));
        x.one(PLAIN, tune(2, 0, 0), 0, 0);
        // In wind 3 what is left of (2 0 1) is 0, of (2 0 0) 0 0.
        is("another's", x.bride(0), tune(2, 0, 1));
        x.one(PLAIN, tune(0), 0, 0);
        is("nor the third's in the wind", x.bride(0), tune(2, 1, 1));
        x.move(1, 1);
        x.move(2, 1);
        is("not heard there", x.bride(0), tune(2, 0, 0));
        WhistledNames halves = new WhistledNames();
        halves.one(HALF, tune(1, 2), 0, 0);
        halves.one(PLAIN, tune(1, 1, 1, 1), 0, 0);
        is("hers for nobody's, nobody's for hers", halves.bride(0), -1);
        WhistledNames single = new WhistledNames();
        single.one(PLAIN, 7, 0, 0);
        is("one note", single.bride(0), 7);
        single.one(BLIND, 7, 0, 0);
        is("one note, another's", single.bride(0), -1);
        single.rename(0, 2047);
        is("five notes", single.bride(0), tune(3, 0, 0, 0, 0));
        int[] wrong = {-1, 2, 7, MAX, MIN};
        for (int w : wrong) {
            bad("bride " + w, single, () -> single.bride(w));
        }
    }

    private static void thief() {
        promise = 21;
        WhistledNames x = withOne(HALF, tune(1, 2, 3, 0, 0));
        is("half", x.thief(0, 0, 0), 3);
        is("half less lost", x.thief(0, 1, 0), 2);
        is("less yet", x.thief(0, 2, 0), 1);
        is("nothing left", x.thief(0, 3, 0), -1);
        x.one(PLAIN, tune(1, 2, 3), 0, 0);
        is("another one turns, too", x.thief(0, 0, 0), 4);
        is("the other one with him", x.thief(0, 0, 1), -1);
        x.move(1, 1);
        is("alone again", x.thief(0, 0, 0), 3);
        is("from his place", x.thief(1, 0, 1), 3);
        is("not heard", x.thief(0, 0, 1), -1);
        x.rename(0, 4);
        is("one note", x.thief(0, 3, 0), 1);
        int[][] wrong = {{-1, 0, 0}, {6, 0, 0}, {0, -1, 0}, {0, 4, 0}, {0, 0, -1}, {0, 0, 2}, {MAX, 0, 0},
            {0, MAX, 0}, {0, 0, MAX}, {MIN, MIN, MIN}};
        for (int[] w : wrong) {
            bad("thief " + w[0] + " " + w[1] + " " + w[2], x, () -> x.thief(w[0], w[1], w[2]));
        }
    }

    private static void whistled() {
        promise = 22;
        WhistledNames nobody = new WhistledNames();
        is("nobody", nobody.whistled(5, 3, 0, 0), 1364);
        is("nobody, the least", nobody.whistled(5, 3, 0, 1), 4);
        bad("nobody has no bits", nobody, () -> nobody.whistled(0, 0, 1, 0));
        WhistledNames x = withOne(PLAIN, 2047);
        is("one", x.whistled(0, 0, 1, 0), 1);
        is("the greatest", x.whistled(0, 0, 1, 1), 2047);
        is("the others", x.whistled(0, 0, 0, 0), 1363);
        no("nothing comes", x, () -> x.whistled(0, 1, 1, 1));
        is("nothing comes", x.whistled(0, 1, 1, 0), 0);
        x.one(HALF, tune(3, 3, 0), 0, 0);
        // 3 3 and one, two or three others: 1 + 4 + 16 + 64.
        is("half", x.whistled(0, 0, 2, 0), 84);
        is("half, the least", x.whistled(0, 0, 2, 1), tune(3, 3));
        is("both", x.whistled(0, 0, 3, 1), 2047);
        int[][] wrong = {{-1, 0, 0, 0}, {6, 0, 0, 0}, {0, -1, 0, 0}, {0, 4, 0, 0}, {0, 0, -1, 0}, {0, 0, 4, 0},
            {0, 0, 0, -1}, {0, 0, 0, 2}, {MAX, 0, 0, 0}, {0, MAX, 0, 0}, {0, 0, MAX, 0}, {0, 0, 0, MAX},
            {0, 0, MIN, 0}};
        for (int[] w : wrong) {
            bad("whistled " + w[0] + " " + w[1] + " " + w[2] + " " + w[3], x,
                    () -> x.whistled(w[0], w[1], w[2], w[3]));
        }
        WhistledNames seven = withMany(7);
        is("all seven", seven.whistled(0, 0, 127, 0), 0);
        bad("an eighth", seven, () -> seven.whistled(0, 0, 128, 0));
    }

    private static void word() {
        promise = 23;
        WhistledNames x = new WhistledNames();
        x.one(PLAIN, 4, 0, 0);
        x.one(PLAIN, tune(1, 1), 0, 0);
        is("at once", x.word(0, 1, 0, 0), 2);
        is("by him", x.word(0, 1, 0, 1), 0);
        x.one(PLAIN, 6, 1, 0);
        x.one(PLAIN, tune(3, 3, 3, 3, 3), 2, 0);
        x.one(PLAIN, 7, 1, 0);
        is("not heard", x.word(0, 3, 0, 0), -1);
        is("not heard, who", x.word(0, 3, 0, 1), -1);
        x.hears(0, 1, 0);
        x.hears(1, 2, 0);
        is("by way of another one", x.word(0, 3, 0, 0), 6);
        is("the least of two", x.word(0, 3, 0, 1), 2);
        is("too windy", x.word(0, 3, 1, 0), -1);
        x.rename(2, tune(2, 2));
        is("the quicker one", x.word(0, 3, 0, 0), 6);
        is("the quicker one, who", x.word(0, 3, 0, 1), 4);
        x.hears(0, 2, 0);
        is("heard at once", x.word(0, 3, 0, 0), 5);
        is("heard at once, who", x.word(0, 3, 0, 1), 0);
        is("back", x.word(3, 0, 0, 0), 1);
        WhistledNames like = new WhistledNames();
        like.one(PLAIN, 5, 0, 0);
        like.one(LISP, 6, 0, 0);
        like.one(LISP, 7, 0, 0);
        is("but for who calls", like.word(1, 0, 0, 0), 1);
        is("another one turns, too, so by way of him", like.word(2, 0, 0, 0), 2);
        is("he calls last", like.word(2, 0, 0, 1), 1);
        like.rename(2, 6);
        like.one(PLAIN, 7, 0, 0);
        is("two others turn", like.word(3, 0, 0, 0), -1);
        is("and by way of neither", like.word(3, 1, 0, 1), -1);
        int[][] wrong = {{0, 0, 0, 0}, {-1, 0, 0, 0}, {0, -1, 0, 0}, {4, 0, 0, 0}, {0, 4, 0, 0}, {0, 1, -1, 0},
            {0, 1, 4, 0}, {0, 1, 0, -1}, {0, 1, 0, 2}, {MAX, 1, 0, 0}, {0, MAX, 0, 0}, {0, 1, MAX, 0},
            {0, 1, 0, MAX}, {MIN, MIN, MIN, MIN}};
        for (int[] w : wrong) {
            bad("word " + w[0] + " " + w[1] + " " + w[2] + " " + w[3], like,
                    () -> like.word(w[0], w[1], w[2], w[3]));
        }
    }

    private static void free() {
        promise = 24;
        WhistledNames x = withOne(PLAIN, 4);
        is("no dead", x.free(0, 99), -1);
        x.dead(tune(0, 0), 90);
        is("nine later", x.free(0, 99), 16);
        is("eight later", x.free(0, 98), -1);
        x.dead(tune(3), 50);
        is("fewer notes", x.free(0, 99), 7);
        is("the earlier one", x.free(0, 59), 7);
        is("not yet", x.free(0, 58), -1);
        x.dead(tune(2), 91);
        is("never yet", x.free(0, 99), 7);
        x.dead(tune(1), 0);
        is("the least number", x.free(0, 99), 5);
        x.one(LISP, 6, 0, 0);
        is("taken for another one's", x.free(0, 99), 7);
        is("his own is his", x.free(1, 99), 5);
        x.rename(0, 6);
        is("another's taken for his", x.free(1, 99), 7);
        WhistledNames early = withOne(PLAIN, 4);
        early.dead(4, 0);
        is("year 0", early.free(0, 0), -1);
        is("year 9", early.free(0, 9), 4);
        int[][] wrong = {{-1, 0}, {2, 0}, {0, -1}, {0, 100}, {MAX, 0}, {0, MAX}, {MIN, 0}, {0, MIN}};
        for (int[] w : wrong) {
            bad("free " + w[0] + " " + w[1], x, () -> x.free(w[0], w[1]));
        }
    }

    // ---- what there is

    private static void image() {
        promise = 25;
        WhistledNames x = withOne(PLAIN, 4);
        long digest = x.digest();
        is("kept", x.image(0), 1);
        is("nothing changes", x.digest(), digest);
        is("kept", x.image(1), 1);
        int[] wrong = {-1, 2, MAX, MIN};
        for (int w : wrong) {
            bad("image " + w, x, () -> x.image(w));
        }
        x.one(PLAIN, 5, 0, 0);
        is("kept anew", x.image(0), 1);
        x.one(PLAIN, 6, 0, 0);
        x.from(0);
        is("the newer one", x.count(0), 2);
        x.from(1);
        is("the other one", x.count(0), 1);
    }

    private static void from() {
        promise = 26;
        WhistledNames x = withMany(3);
        x.hears(0, 1, 2);
        x.dead(31, 9);
        x.whistle(0, 4, 0);
        x.image(1);
        long digest = x.digest();
        no("none was kept", x, () -> x.from(0));
        x.hears(0, 1, -1);
        x.one(BLIND, 4, 0, 0);
        x.rename(0, 7);
        x.move(1, 5);
        x.dead(4, 0);
        x.undo();
        x.type(5, 3);
        is("goes on", x.from(1), 1);
        is("the text stays", x.count(3), 3);
        x.clear();
        is("as it was", x.digest(), digest);
        is("status stays", x.status(1), 1);
        type(x, "one 5 2047 3 3;one 4 64 4 2;dead 4 1;hears 5 4 3;");
        x.read();
        x.whistle(3, 2047, 0);
        x.whistle(3, 4, 0);
        x.clear();
        is("again", x.from(1), 1);
        is("the image stays", x.digest(), digest);
        int[] wrong = {-1, 2, MAX, MIN};
        for (int w : wrong) {
            bad("from " + w, x, () -> x.from(w));
        }
    }

    private static void status() {
        promise = 27;
        WhistledNames x = withMany(7);
        x.one(9, 9, 9, 9);
        x.hears(0, 0, 0);
        x.undo();
        x.names(-1);
        x.from(0);
        x.one(0, 4, 0, 0);
        is("bad", x.status(0), 2);
        is("no", x.status(1), 3);
        is("full", x.status(2), 1);
        is("as often as asked", x.status(0), 2);
        refuses("another what", x, BAD, -1, () -> x.status(3));
        refuses("-1", x, BAD, -1, () -> x.status(-1));
        refuses("the greatest", x, BAD, -1, () -> x.status(MAX));
        refuses("the least", x, BAD, -1, () -> x.status(MIN));
        x.type('?', 1);
        x.read();
        x.word(0, 6, 0, 0);
        is("a fault and NONE are no refusals", x.status(0) + x.status(1) + x.status(2), 10);
    }

    private static void count() {
        promise = 28;
        WhistledNames x = withMany(5);
        x.dead(4, 0);
        x.dead(4, 0);
        x.whistle(0, 4, 0);
        x.type(0, 8);
        is("people", x.count(0), 5);
        is("dead", x.count(1), 2);
        is("calls", x.count(2), 1);
        is("bytes", x.count(3), 8);
        bad("4", x, () -> x.count(4));
        bad("-1", x, () -> x.count(-1));
        bad("the greatest", x, () -> x.count(MAX));
        bad("the least", x, () -> x.count(MIN));
    }

    private static void digest() {
        promise = 29;
        WhistledNames x = new WhistledNames();
        long h = 757;
        for (int i = 0; i < 4; i++) {
            h = 31 * h;
        }
        for (int i = 0; i < 15; i++) {
            h = 31 * h - 1;
        }
        is("a new object's", x.digest(), h);
        x.hears(2, 1, 3);
        x.hears(5, 4, 0);
        x.one(BIRD, 2047, 5, 3);
        x.one(BLIND, 4, 0, 1);
        x.dead(31, 99);
        x.whistle(5, 2047, 0);
        x.whistle(0, 4, 3);
        x.type(0, 7);
        int[] row = {2, 1, 2, 7, -1, -1, 3, -1, -1, -1, -1, -1, -1, -1, -1, -1, -1, -1, 0, BIRD, 2047, 5, 3,
            BLIND, 4, 0, 1, 31, 99, 1, 2};
        long full = 757;
        for (int v : row) {
            full = 31 * full + v;
        }
        is("of all", x.digest(), full);
        is("again", x.digest(), full);
    }
}
