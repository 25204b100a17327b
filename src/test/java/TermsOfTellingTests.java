/** "Terms", its third part, sentence by sentence: CALLS told, THE GORGE as a TEXT, IMAGES, STATUS, refusals. */
final class TermsOfTellingTests {
    private static final int PLAIN = Checks.PLAIN, HALF = Checks.HALF, DULL = Checks.DULL;
    private static final String MOST = "hears 0 1 0;".repeat(16);

    private TermsOfTellingTests() {
    }

    static void run() {
        callsTold();
        heardOf();
        undo();
        bytes();
        items();
        words();
        figures();
        semicolon();
        blanks();
        blanksNeeded();
        fault();
        wordThatIsNone();
        runOfFigures();
        byteThatBeginsNone();
        endsTooEarly();
        emptyText();
        toldAnew();
        whatStays();
        order();
        refusedItem();
        images();
        fromImage();
        status();
        eachAnswer();
        itemsAreNone();
        nothingButStatus();
        badFirst();
        noNext();
        fullLast();
        countAsThese();
    }

    private static void says(String sentence) {
        Checks.says("Terms", sentence);
    }

    private static void is(String what, long got, long due) {
        Checks.is(what, got, due);
    }

    private static int tune(int... notes) {
        return Checks.tune(notes);
    }

    /** What read answers; a FAULT or an ITEM that is refused leaves all as it was, STATUS too. */
    private static void reads(String text, int due) {
        WhistledNames x = textIn(Checks.some(), text);
        String what = "read of \"" + text + "\"";
        is(what, x.read(), due);
        if (due < 0) {
            Checks.same(what + " changes nothing", Checks.seen(x), Checks.seen(textIn(Checks.some(), text)));
        }
    }

    private static WhistledNames textIn(WhistledNames x, String text) {
        x.clear();
        Checks.type(x, text);
        return x;
    }

    // ---- calls told

    private static void callsTold() {
        says("======== 3 CALLS may be told one by one, from a PLACE in a WIND: who TURNED at each (a row of up to 8);");
        WhistledNames x = Checks.withOne(PLAIN, 4);
        x.one(DULL, 4, 1, 0);
        x.hears(0, 1, 3);
        is("none yet", x.count(2), 0);
        for (int i = 0; i < 8; i++) {
            is("which is told after " + i, x.whistle(i % 2, 4, i % 4), i);
            is("then there are", x.count(2), i + 1);
        }
        for (int i = 0; i < 8; i++) {
            is("who TURNED at " + i, x.turned(i), i % 4 < 2 ? 3 : 1);
        }
        Checks.refused("a ninth one", Checks::all, Checks.FULL, -4, y -> y.whistle(0, 4, 0));
        Checks.bad("turned, of eight", Checks::all, new int[] {-1, 8}, (y, call) -> y.turned(call));
    }

    private static void heardOf() {
        says("HEARD OF one: how many of these he TURNED at.");
        WhistledNames x = Checks.withOne(PLAIN, 4);
        x.one(PLAIN, 5, 0, 0);
        is("no CALLS", x.heardOf(0), 0);
        for (int i = 0; i < 8; i++) {
            x.whistle(0, i == 3 ? 5 : 4, 0);
        }
        is("all but one", x.heardOf(0), 7);
        is("one", x.heardOf(1), 1);
        x.one(PLAIN, 4, 0, 0);
        is("who came later", x.heardOf(2), 0);
        x.undo();
        is("of those left", x.heardOf(0), 6);
        WhistledNames seven = Checks.together(HALF, 4, 4, 4, 4, 4, 4, 4);
        for (int i = 0; i < 8; i++) {
            seven.whistle(0, 4, 0);
        }
        is("the first of seven, all eight", seven.heardOf(0), 8);
        is("the last of seven, all eight", seven.heardOf(6), 8);
    }

    private static void undo() {
        says("UNDO: the last one is taken back.");
        WhistledNames x = Checks.withOne(PLAIN, 4);
        long none = x.digest();
        x.whistle(0, 4, 0);
        long one = x.digest();
        x.whistle(0, 5, 0);
        is("of two", x.undo(), 1);
        is("the first one stays", x.digest(), one);
        is("its number is free again", x.whistle(0, 6, 0), 1);
        x.undo();
        is("the only one", x.undo(), 0);
        is("as if none had been told", x.digest(), none);
        Checks.refused("none to take back", Checks::empty, Checks.NO, -3, y -> y.undo());
        WhistledNames full = Checks.all();
        is("of eight", full.undo(), 7);
        is("room again", full.whistle(0, 4, 0), 7);
    }

    // ---- the text

    private static void bytes() {
        says("THE GORGE is a TEXT (200 bytes at most)");
        WhistledNames x = new WhistledNames();
        for (int i = 1; i <= 25; i++) {
            is("eight bytes more", x.type(-1, 8), 8 * i);
        }
        Checks.refused("one byte more than 200", () -> Checks.withText(" ".repeat(200)), Checks.FULL, -4,
                y -> y.type(' ', 1));
        Checks.refused("eight bytes more than 200", () -> Checks.withText(" ".repeat(200)), Checks.FULL, -4,
                y -> y.type(' ', 8));
        Checks.refused("two bytes, room for one", () -> Checks.withText(MOST + "       "), Checks.FULL, -4,
                y -> y.type(' ', 2));
        Checks.refused("eight bytes, room for seven", () -> Checks.withText(MOST + " "), Checks.FULL, -4,
                y -> y.type(' ', 8));
        is("one byte, room for one", Checks.withText(" ".repeat(199)).type(' ', 1), 200);
        is("eight bytes, room for eight", Checks.withText(" ".repeat(192)).type(' ', 8), 200);
        reads(MOST + "dead4 0;", 17);
        reads(MOST + "dead4 0?", -10 - 199);
    }

    private static void items() {
        says("of ITEMS, each ended by ; : hears p q w; one EAR TUNE p KIN; dead TUNE YEAR.");
        reads("hears 0 5 3;", 1);
        reads("one 5 2047 5 3;", 1);
        reads("dead 2047 99;", 1);
        reads("dead 4 0;dead 4 0;", 2);
        reads("hears 0 5;", -10 - 9);
        reads("hears 0 5 3 1;", -10 - 12);
        reads("one 5 2047 5;", -10 - 12);
        reads("one 5 2047 5 3 0;", -10 - 15);
        reads("dead 2047;", -10 - 9);
        reads("dead 2047 99 1;", -10 - 13);
        reads("hears;", -10 - 5);
        reads("dead 4 0", -10 - 8);
        reads("dead 4 0 dead 4 0;", -10 - 9);
        reads("dead 4 0;;", -10 - 9);
        WhistledNames x = Checks.withText("hears 1 0 2;one 3 31 4 2;dead 16 7;");
        x.read();
        is("its wind", x.hears(0, 1, 0), 2);
        is("its TUNE", x.rename(0, 4), 31);
        is("its PLACE", x.move(0, 0), 4);
        is("its dead one's YEAR, not yet 9 ago", x.free(0, 15), -1);
        is("its dead one", x.free(0, 16), 16);
    }

    private static void words() {
        says("TOKENS: words of letters a .. z,");
        reads("dead4 0;", 1);
        reads("deada 4 0;", -10);
        reads("deadz 4 0;", -10);
        reads("adead 4 0;", -10);
        // The bytes ahead of a and behind z are no letters: the word ends ahead of them.
        reads("dead`4 0;", -10 - 4);
        reads("dead{4 0;", -10 - 4);
        reads("Dead 4 0;", -10);
        reads("deaD 4 0;", -10);
    }

    private static void figures() {
        says("figures (1 to 4 are one number),");
        reads("dead 4 9;", 1);
        reads("dead 0004 0099;", 1);
        reads("dead 2047 0;", 1);
        reads("one 0000 0004 0000 0000;", 1);
        reads("hears 0 9999 0;", -1000);
        reads("dead 4 00000;", -10 - 7);
        reads("dead 00004 0;", -10 - 5);
        // The bytes ahead of 0 and behind 9 are no figures: the number ends ahead of them.
        reads("dead 4/0;", -10 - 6);
        reads("dead 4:0;", -10 - 6);
        WhistledNames x = Checks.withText("one 0 0031 0 0;dead 0016 0010;");
        x.read();
        is("figures to the base 10", x.rename(0, 4), 31);
        is("the YEAR 10", x.free(0, 18), -1);
        is("the YEAR 10, 9 later", x.free(0, 19), 16);
    }

    private static void semicolon() {
        says("; ;");
        reads("dead 4 0;", 1);
        reads("dead 4 0 ; ", 1);
        reads(";", -10);
        reads("dead ; 4 0;", -10 - 5);
        reads("dead 4;0;", -10 - 6);
    }

    private static void blanks() {
        says("any number of blanks (32) ahead of, between, behind them");
        reads("   dead   4   0   ;   ", 1);
        reads(" ".repeat(192) + "dead4 0;", 1);
        reads("dead4 0;" + " ".repeat(192), 1);
        reads("dead" + " ".repeat(192) + "4 0;", 1);
        reads("dead4" + " ".repeat(193) + "0;", 1);
        reads("dead 4 0;   dead 4 0;", 2);
        // Byte 31 and byte 33 are no blanks.
        reads("dead 4 0;" + (char) 31, -10 - 9);
        reads("dead 4 0;!", -10 - 9);
        reads("dead\t4 0;", -10 - 4);
        reads("dead 4 0;\n", -10 - 9);
        reads("\0", -10);
    }

    private static void blanksNeeded() {
        says("(needed only between two words, two numbers).");
        reads("hears0 1 2;one5 2047 5 3;dead4 99;", 3);
        reads("dead4 0;dead5 1;", 2);
        reads("deadone 4 0;", -10);
        reads("dead one", -10 - 5);
        reads("dead 40;", -10 - 7);
        reads("hears 0 12;", -10 - 10);
    }

    private static void fault() {
        says("FAULT: the place of the first byte of the first TOKEN that can not stand there");
        reads("4;", -10);
        reads("   4;", -10 - 3);
        reads("dead dead 4 0;", -10 - 5);
        reads("dead 4 dead;", -10 - 7);
        reads("dead 4 0 0;", -10 - 9);
        reads("dead  ; 0;", -10 - 6);
        reads("dead 4 0; 17", -10 - 10);
        reads("dead 4 0; one one ?", -10 - 14);
        // The FAULT comes first, though an ITEM ahead of it would be refused.
        reads("dead 3 0;dead;", -10 - 13);
        reads(MOST + "dead 4 0", -10 - 200);
        reads(MOST + "       4", -10 - 199);
    }

    private static void wordThatIsNone() {
        says("(a word that is none,");
        reads("hear 0 1 2;", -10);
        reads("hearss 0 1 2;", -10);
        reads("gears 0 1 2;", -10);
        reads("heard 0 1 2;", -10);
        reads("bead 4 0;", -10);
        reads("done 0 4 0 0;", -10);
        reads("  on 0 4 0 0;", -10 - 2);
        reads("ones 0 4 0 0;", -10);
        reads("dea 4 0;", -10);
        reads("x", -10);
        reads("dead 4 0; x", -10 - 10);
        reads("dead 4 x;", -10 - 7);
        reads("dead 4 0 x;", -10 - 9);
        reads("b".repeat(200), -10);
    }

    private static void runOfFigures() {
        says("a run of five figures or more (at its first one),");
        reads("dead 4 1234;", -1000);
        reads("dead 4 12345;", -10 - 7);
        reads("dead 4 123456;", -10 - 7);
        reads("dead  00000 0;", -10 - 6);
        reads("dead4294967300 0;", -10 - 4);
        reads("12345", -10);
        reads("dead 4 0 12345", -10 - 9);
        reads("dead " + "0".repeat(195), -10 - 5);
    }

    private static void byteThatBeginsNone() {
        says("a byte that begins none, too);");
        reads("?", -10);
        reads("  ?", -10 - 2);
        reads("dead?4 0;", -10 - 4);
        reads("dead 4 ?;", -10 - 7);
        reads("dead 4 -1;", -10 - 7);
        reads("dead 4 0?", -10 - 8);
        reads("dead 4 0;A", -10 - 9);
        reads("dead 4 0;\377", -10 - 9);
        reads("dead 4 0;\200", -10 - 9);
    }

    private static void endsTooEarly() {
        says("the TEXT's length, if it ends too early");
        reads("dead", -10 - 4);
        reads("dead ", -10 - 5);
        reads("dead 4", -10 - 6);
        reads("dead 4 0", -10 - 8);
        reads("dead 4 0   ", -10 - 11);
        reads("dead 4 0;one", -10 - 12);
        reads("hears 0 1 2", -10 - 11);
        reads("one 0 4 0 0", -10 - 11);
        reads(" ".repeat(196) + "dead", -10 - 200);
        reads("dead" + " ".repeat(196), -10 - 200);
    }

    private static void emptyText() {
        says("(one that is empty or has blanks alone has none).");
        reads("", 0);
        reads(" ", 0);
        reads(" ".repeat(200), 0);
        WhistledNames x = textIn(Checks.all(), "");
        is("nothing is told", x.read(), 0);
        is("so there is nobody", x.count(0) + x.count(1) + x.count(2), 0);
        is("and all is as in a new object", x.digest(), Checks.empty().digest());
    }

    private static void toldAnew() {
        says("A GORGE without a FAULT is told anew by these alone");
        String text = "one 1 5 2 3;hears 3 2 1;one 0 6 1 2;dead 31 77;";
        WhistledNames x = textIn(Checks.all(), text);
        is("of as much as can be", x.read(), 4);
        WhistledNames y = textIn(Checks.empty(), text);
        y.one(1, 5, 2, 3);
        y.one(0, 6, 1, 2);
        y.hears(3, 2, 1);
        y.dead(31, 77);
        is("by these alone", x.digest(), y.digest());
        is("again", x.read(), 4);
        is("not twice", x.digest(), y.digest());
        reads("one 0 4 0 0;".repeat(7) + "dead4 0;dead4 0;dead4 0;dead4 0;dead4 0;dead4 0;", 13);
        WhistledNames full = textIn(Checks.all(), "one 0 4 0 0;".repeat(7));
        is("seven, though there are seven", full.read(), 7);
    }

    private static void whatStays() {
        says("(no CALLS; THE TEXT, IMAGES, STATUS stay),");
        WhistledNames x = Checks.all();
        x.type(0, 9);
        x.read();
        is("no CALLS", x.count(2), 0);
        is("none TURNED at", x.turned(0), -2);
        is("THE TEXT", x.count(3), 200);
        is("THE TEXT is read again", x.read(), 16);
        is("STATUS", x.status(0), 2);
        x.from(0);
        is("IMAGE 0", x.count(2), 8);
        x.from(1);
        is("IMAGE 1", x.count(0), 7);
        WhistledNames y = Checks.withText("one 0 4 0 0;");
        y.read();
        is("no IMAGE is kept by it", y.from(0), -3);
    }

    private static void order() {
        says("in their order;");
        WhistledNames x = Checks.withText("one 0 4 0 0;one 0 31 0 0;dead 5 0;dead 6 1;hears 0 1 2;hears 1 0 3;");
        x.read();
        WhistledNames y = new WhistledNames();
        y.one(0, 4, 0, 0);
        y.one(0, 31, 0, 0);
        y.dead(5, 0);
        y.dead(6, 1);
        y.hears(0, 1, 3);
        x.clear();
        is("as told one by one", x.digest(), y.digest());
        is("the later greatest WIND", x.hears(0, 1, 0), 3);
        // The first one that is refused, not the last.
        reads("dead 4 0;dead 3 0;hears 0 0 0;", -1001);
    }

    private static void refusedItem() {
        says("the first ITEM (0 on) that is refused (as its call is): nothing changes.");
        reads("hears 0 0 1;", -1000);
        reads("hears 6 0 1;", -1000);
        reads("hears 0 6 1;", -1000);
        reads("hears 0 1 4;", -1000);
        reads("one 6 4 0 0;", -1000);
        reads("one 0 3 0 0;", -1000);
        reads("one 0 8 0 0;", -1000);
        reads("one 0 2048 0 0;", -1000);
        reads("one 0 4 6 0;", -1000);
        reads("one 0 4 0 4;", -1000);
        reads("dead 3 0;", -1000);
        reads("dead 2048 0;", -1000);
        reads("dead 4 100;", -1000);
        reads("one 0 4 0 0;".repeat(8), -1007);
        reads("dead 4 0;".repeat(7), -1006);
        reads("one 0 4 0 0;".repeat(7) + "one 0 4 0 4;", -1007);
        reads("dead 4 0;hears 0 1 3;one 0 4 0 0;dead 4 100;", -1003);
        reads("dead4 0;".repeat(25), -1006);
        WhistledNames full = textIn(Checks.all(), "one 0 4 0 0;".repeat(8));
        long digest = full.digest();
        is("an eighth ITEM of seven PEOPLE there are", full.read(), -1007);
        is("they stay", full.digest(), digest);
    }

    // ---- images, status

    private static void images() {
        says("IMAGES 0, 1 keep all but them, THE TEXT and STATUS;");
        for (int i = 0; i < 2; i++) {
            int image = i;
            WhistledNames x = Checks.all();
            x.image(i);
            x.clear();
            long digest = x.digest();
            x.hears(0, 1, -1);
            x.rename(0, 31);
            x.move(0, 5);
            x.undo();
            x.whistle(5, 2047, 0);
            x.undo();
            x.undo();
            x.type(0, 1);
            x.type(0, 9);
            is("IMAGE " + i, x.from(i), 1);
            is("THE TEXT is not kept", x.count(3), 1);
            is("STATUS is not kept", x.status(0), 1);
            x.clear();
            is("all else is, by IMAGE " + i, x.digest(), digest);
            Checks.type(x, "one5 31 5 3;".repeat(7) + "dead31 99;".repeat(6) + "hears0 1 3;hears5 4 3;");
            x.read();
            x.whistle(5, 31, 0);
            x.clear();
            is("IMAGE " + i + ", after another GORGE", x.from(i), 1);
            is("all of it", x.digest(), digest);
            Checks.refused("none was kept yet", Checks::empty, Checks.NO, -3, y -> y.from(image));
        }
        for (int i : new int[] {-1, 2, Checks.MIN, Checks.MAX}) {
            Checks.refused("image " + i, Checks::some, Checks.BAD, -2, x -> x.image(i));
            Checks.refused("from " + i, Checks::some, Checks.BAD, -2, x -> x.from(i));
        }
    }

    private static void fromImage() {
        says("it goes on from one.");
        WhistledNames x = new WhistledNames();
        x.image(0);
        x.one(PLAIN, 4, 0, 0);
        x.image(1);
        x.one(PLAIN, 5, 0, 0);
        x.from(1);
        is("IMAGE 1", x.count(0), 1);
        is("it goes on: the next one", x.one(PLAIN, 6, 0, 0), 1);
        x.from(0);
        is("IMAGE 0, of nobody", x.count(0), 0);
        x.from(1);
        is("IMAGE 1 as it was kept", x.count(0), 1);
        x.from(0);
        x.image(1);
        x.from(1);
        is("IMAGE 1 kept anew", x.count(0), 0);
        WhistledNames y = Checks.all();
        y.from(1);
        is("no CALLS when it was kept", y.count(2), 0);
        y.from(0);
        is("8 CALLS when it was kept", y.count(2), 8);
        is("and one more is too many", y.whistle(0, 4, 0), -4);
        is("IMAGES stay when it goes on from one", y.from(1), 1);
    }

    private static void status() {
        says("STATUS: how many calls were refused as BAD, NO, FULL");
        WhistledNames x = Checks.all();
        for (int what = 0; what < 3; what++) {
            is("none yet, " + what, x.status(what), 0);
        }
        for (int i = 1; i <= 40; i++) {
            x.type(0, 0);
            is("BAD", x.status(0), i);
        }
        for (int i = 1; i <= 30; i++) {
            x.names(-1);
            is("NO", x.status(1), i);
        }
        for (int i = 1; i <= 20; i++) {
            x.whistle(0, 4, 0);
            is("FULL", x.status(2), i);
        }
        is("BAD stays", x.status(0), 40);
        is("NO stays", x.status(1), 30);
    }

    private static void eachAnswer() {
        says("(each answer told so below is such a one;");
        WhistledNames x = Checks.all();
        is("BAD as -10, hears", x.hears(0, 0, 0), -10);
        is("BAD as -10, names", x.names(7), -10);
        is("BAD as -1, status", x.status(3), -1);
        is("three BAD", x.status(0), 3);
        is("NO as -20, names", x.names(0), -20);
        is("one NO", x.status(1), 1);
        is("no FULL", x.status(2), 0);
        // Answers that are low or none without being told as BAD, NO or FULL.
        WhistledNames y = new WhistledNames();
        y.hears(0, 1, -1);
        y.hears(0, 1, -1);
        y.one(HALF, 4, 0, 2);
        y.one(HALF, 4, 0, 2);
        y.names(-1);
        y.bride(0);
        y.thief(5, 0, 0);
        y.word(0, 1, 3, 1);
        y.move(1, 5);
        y.word(0, 1, 0, 1);
        y.free(0, 0);
        y.clear();
        y.type('?', 1);
        y.read();
        is("NONE and a FAULT are no refusals", Checks.refusedSoFar(y), 0);
    }

    private static void itemsAreNone() {
        says("ITEMS are none).");
        WhistledNames x = Checks.withText("dead 3 0;");
        is("a BAD ITEM", x.read(), -1000);
        textIn(x, "one 0 4 0 0;".repeat(8));
        is("an ITEM too many", x.read(), -1007);
        textIn(x, "hears 0 0 0;");
        is("PLACES alike", x.read(), -1000);
        textIn(x, "dead 4");
        is("a FAULT", x.read(), -16);
        is("none of them in STATUS", Checks.refusedSoFar(x), 0);
    }

    // ---- what is refused

    private static void nothingButStatus() {
        says("Refused, changing nothing but STATUS,");
        Checks.Gorge[] gorges = {Checks::empty, Checks::some, Checks::all};
        for (Checks.Gorge gorge : gorges) {
            Checks.refused("hears", gorge, Checks.BAD, -10, x -> x.hears(0, 1, 4));
            Checks.refused("one", gorge, Checks.BAD, -2, x -> x.one(0, 4, 0, 4));
            Checks.refused("rename", gorge, Checks.BAD, -2, x -> x.rename(0, 8));
            Checks.refused("move", gorge, Checks.BAD, -2, x -> x.move(0, 6));
            Checks.refused("dead", gorge, Checks.BAD, -2, x -> x.dead(4, 100));
            Checks.refused("type", gorge, Checks.BAD, -2, x -> x.type(';', 9));
            Checks.refused("whistle", gorge, Checks.BAD, -2, x -> x.whistle(0, 4, 4));
            Checks.refused("image", gorge, Checks.BAD, -2, x -> x.image(2));
            Checks.refused("from", gorge, Checks.BAD, -2, x -> x.from(2));
            Checks.refused("clash", gorge, Checks.BAD, -2, x -> x.clash(2));
        }
        Checks.refused("undo", Checks::empty, Checks.NO, -3, x -> x.undo());
        Checks.refused("from", Checks::some, Checks.NO, -3, x -> x.from(1));
        Checks.refused("one", Checks::all, Checks.FULL, -4, x -> x.one(5, 31, 4, 3));
        Checks.refused("dead", Checks::all, Checks.FULL, -4, x -> x.dead(31, 99));
        Checks.refused("whistle", Checks::all, Checks.FULL, -4, x -> x.whistle(1, 31, 2));
        Checks.refused("type", Checks::all, Checks.FULL, -4, x -> x.type('?', 1));
    }

    private static void badFirst() {
        says("the first of: BAD -2 a number is not as told;");
        Checks.refused("one, eight of them", Checks::all, Checks.BAD, -2, x -> x.one(6, 4, 0, 0));
        Checks.refused("dead, seven of them", Checks::all, Checks.BAD, -2, x -> x.dead(3, 0));
        Checks.refused("whistle, nine of them", Checks::all, Checks.BAD, -2, x -> x.whistle(6, 4, 0));
        Checks.refused("type, more than there is room for", Checks::all, Checks.BAD, -2, x -> x.type(0, 9));
        Checks.refused("type, none", Checks::all, Checks.BAD, -2, x -> x.type(0, 0));
        Checks.refused("names, of seven", Checks::all, Checks.BAD, -10, x -> x.names(-2));
        Checks.refused("from, none kept", Checks::empty, Checks.BAD, -2, x -> x.from(-1));
        Checks.refused("clash, none there", Checks::empty, Checks.BAD, -2, x -> x.clash(-1));
        Checks.refused("whistled, none such", Checks::some, Checks.BAD, -2, x -> x.whistled(0, 0, 8, 1));
        Checks.refused("two wrong numbers are one BAD call", Checks::all, Checks.BAD, -2, x -> x.one(9, 9, 9, 9));
    }

    private static void noNext() {
        says("NO -3 as told;");
        Checks.refused("undo", Checks::empty, Checks.NO, -3, x -> x.undo());
        Checks.refused("clash", Checks::empty, Checks.NO, -3, x -> x.clash(1));
        Checks.refused("whistled", Checks::some, Checks.NO, -3, x -> x.whistled(4, 0, 7, 1));
        Checks.refused("from", Checks::empty, Checks.NO, -3, x -> x.from(0));
    }

    private static void fullLast() {
        says("FULL -4");
        Checks.refused("one", Checks::all, Checks.FULL, -4, x -> x.one(0, 4, 0, 0));
        Checks.refused("dead", Checks::all, Checks.FULL, -4, x -> x.dead(4, 0));
        Checks.refused("whistle", Checks::all, Checks.FULL, -4, x -> x.whistle(0, 4, 0));
        Checks.refused("type", Checks::all, Checks.FULL, -4, x -> x.type(0, 8));
    }

    private static void countAsThese() {
        says("(where others are told they count as these).");
        Checks.refused("hears, -10 for BAD", Checks::some, Checks.BAD, -10, x -> x.hears(2, 2, 0));
        Checks.refused("names, -10 for BAD", Checks::some, Checks.BAD, -10, x -> x.names(3));
        Checks.refused("names, -20 for NO", Checks::all, Checks.NO, -20, x -> x.names(-1));
        Checks.refused("status, -1 for BAD", Checks::some, Checks.BAD, -1, x -> x.status(-1));
    }
}
