import java.math.BigInteger;

/** Promises 1 to 29, sentence by sentence. */
final class EachPromiseTests {
    private static final int PLAIN = Checks.PLAIN, LISP = Checks.LISP, HALF = Checks.HALF, BIRD = Checks.BIRD,
            BLIND = Checks.BLIND, DULL = Checks.DULL;
    private static final int MIN = Checks.MIN, MAX = Checks.MAX;
    private static final int[] FAR = {MIN, MAX};

    private EachPromiseTests() {
    }

    static void run() {
        newObject();
        hears();
        hearsBad();
        one();
        oneBad();
        oneFull();
        rename();
        renameBad();
        move();
        moveBad();
        dead();
        deadBad();
        deadFull();
        comes();
        comesBad();
        type();
        typeBad();
        typeFull();
        clear();
        readItems();
        readFault();
        readRefused();
        readNothingChanges();
        call();
        callBad();
        whistle();
        whistleBad();
        whistleFull();
        turned();
        turnedBad();
        heardOf();
        heardOfBad();
        undo();
        undoNo();
        taken();
        takenBad();
        clash();
        clashBad();
        clashNo();
        alter();
        names();
        namesNone();
        namesBad();
        namesNo();
        bride();
        brideNone();
        brideBad();
        thief();
        thiefNone();
        thiefBad();
        whistled();
        whistledBad();
        whistledNo();
        word();
        wordNone();
        wordBad();
        free();
        freeNone();
        freeBad();
        image();
        imageBad();
        from();
        fromBad();
        fromNo();
        status();
        statusOther();
        count();
        countBad();
        digestOfNothing();
        digestOfCounts();
        digestOfPlaces();
        digestOfPeople();
        digestOfTheDead();
        digestOfCalls();
    }

    private static void says(int promise, String sentence) {
        Checks.says("Promise " + promise, sentence);
    }

    private static void is(String what, long got, long due) {
        Checks.is(what, got, due);
    }

    private static int tune(int... notes) {
        return Checks.tune(notes);
    }

    // ---- a gorge

    private static void newObject() {
        says(1, "As told; nobody.");
        WhistledNames x = new WhistledNames();
        for (int what = 0; what < 4; what++) {
            is("count(" + what + ")", x.count(what), 0);
        }
        for (int what = 0; what < 3; what++) {
            is("status(" + what + ")", x.status(what), 0);
        }
        is("call", x.call(0, 4, 0), 0);
        is("clash", x.clash(0), 0);
        is("alter", x.alter(), 0);
        is("names", x.names(-1), 0);
        is("whistled", x.whistled(0, 0, 0, 0), 1364);
        is("clear", x.clear(), 0);
        is("read", x.read(), 0);
        is("no PERSON 0", x.heardOf(0), -2);
        is("no CALL 0", x.turned(0), -2);
        is("no CALL to take back", x.undo(), -3);
        is("no IMAGE 0", x.from(0), -3);
        is("no IMAGE 1", x.from(1), -3);
        is("not heard", x.hears(5, 4, 0), -1);
        x.one(0, 4, 0, 0);
        is("another object has nothing of this one", new WhistledNames().count(0), 0);
    }

    private static void hears() {
        says(2, "HEARS by WINDS up to w (NONE: not): what it was.");
        WhistledNames x = Checks.withOne(PLAIN, 4);
        int[] told = {0, 3, -1, 2, 1, 1, -1, -1, 3};
        int was = -1;
        for (int w : told) {
            is("what it was, told " + w, x.hears(0, 5, w), was);
            is("heard in WIND 0, told " + w, x.call(5, 4, 0), w >= 0 ? 1 : 0);
            is("heard in WIND 3, told " + w, x.call(5, 4, 3), w == 3 ? 1 : 0);
            was = w;
        }
        is("another pair", x.hears(4, 5, 0), -1);
    }

    private static void hearsBad() {
        says(2, "BAD: -10: alike, too.");
        Checks.Gorge[] gorges = {Checks::empty, Checks::some, Checks::all};
        for (Checks.Gorge gorge : gorges) {
            Checks.badAs(-10, "PLACES alike", gorge, new int[] {0, 1, 5}, (x, p) -> x.hears(p, p, 0));
            Checks.badAs(-10, "alike, NONE, PLACE", gorge, new int[] {3}, (x, p) -> x.hears(p, p, -1));
            Checks.badAs(-10, "p", gorge, Checks.WRONG_PLACES, (x, p) -> x.hears(p, 0, 0));
            Checks.badAs(-10, "q", gorge, Checks.WRONG_PLACES, (x, q) -> x.hears(0, q, 0));
            Checks.badAs(-10, "both", gorge, Checks.WRONG_PLACES, (x, p) -> x.hears(p, p, 0));
            Checks.badAs(-10, "w", gorge, new int[] {-2, 4, MIN, MAX}, (x, w) -> x.hears(0, 1, w));
        }
    }

    private static void one() {
        says(3, "One of PEOPLE: the number.");
        WhistledNames x = new WhistledNames();
        is("the least of each", x.one(0, 4, 0, 0), 0);
        is("the greatest of each", x.one(5, 2047, 5, 3), 1);
        is("one like another", x.one(5, 2047, 5, 3), 2);
        is("BIRD, 5 NOTES", x.one(3, 1024, 2, 1), 3);
        is("BLIND", x.one(4, 64, 3, 2), 4);
        is("LISP", x.one(1, 127, 4, 0), 5);
        is("HALF, the last there can be", x.one(2, 256, 1, 3), 6);
        is("all of them", x.count(0), 7);
    }

    private static void oneBad() {
        says(3, "BAD;");
        Checks.badAnywhere("EAR", new int[] {-1, 6, MIN, MAX}, (x, ear) -> x.one(ear, 4, 0, 0));
        Checks.badAnywhere("TUNE", Checks.WRONG_TUNES, (x, tune) -> x.one(0, tune, 0, 0));
        Checks.badAnywhere("PLACE", Checks.WRONG_PLACES, (x, place) -> x.one(0, 4, place, 0));
        Checks.badAnywhere("KIN", new int[] {-1, 4, MIN, MAX}, (x, kin) -> x.one(0, 4, 0, kin));
    }

    private static void oneFull() {
        says(3, "FULL: 7.");
        is("the seventh", Checks.withPeople(6).one(0, 4, 0, 0), 6);
        Checks.refused("the eighth", () -> Checks.withPeople(7), Checks.FULL, -4, x -> x.one(0, 4, 0, 0));
        Checks.refused("the eighth, all else full, too", Checks::all, Checks.FULL, -4, x -> x.one(5, 2047, 5, 3));
        WhistledNames x = Checks.all();
        x.one(0, 4, 0, 0);
        x.clear();
        x.read();
        is("room again", x.one(0, 4, 0, 0), 0);
    }

    private static void rename() {
        says(4, "One gets another TUNE: what it was.");
        WhistledNames x = Checks.withPeople(7);
        is("the first one's", x.rename(0, 2047), 4);
        is("the first one's then", x.rename(0, 64), 2047);
        is("the last one's", x.rename(6, 1024), 6);
        is("the same again", x.rename(6, 1024), 1024);
        is("the others keep theirs", x.rename(5, 5), 5);
        x.hears(0, 1, 0);
        is("he is called by it", x.call(0, 64, 0), 1);
        is("not by what it was", x.call(0, 4, 0), 0);
        is("as many as before", x.count(0), 7);
    }

    private static void renameBad() {
        says(4, "BAD.");
        Checks.badPerson("PERSON", (x, person) -> x.rename(person, 4));
        Checks.bad("TUNE", Checks::some, Checks.WRONG_TUNES, (x, tune) -> x.rename(0, tune));
        Checks.bad("TUNE of the last", Checks::all, Checks.WRONG_TUNES, (x, tune) -> x.rename(6, tune));
        Checks.bad("both", Checks::some, FAR, (x, number) -> x.rename(number, number));
    }

    private static void move() {
        says(5, "One goes to a PLACE: where he was.");
        WhistledNames x = Checks.withPeople(7);
        is("from the least PLACE", x.move(0, 5), 0);
        is("from the greatest PLACE", x.move(0, 0), 5);
        is("he stays", x.move(0, 0), 0);
        is("the last one", x.move(6, 3), 0);
        is("the last one back", x.move(6, 0), 3);
        is("the others stay", x.move(5, 5), 5);
        x.move(1, 2);
        is("called where he is", x.call(2, 5, 0), 2);
        is("not where he was", x.call(1, 5, 0), 0);
    }

    private static void moveBad() {
        says(5, "BAD.");
        Checks.badPerson("PERSON", (x, person) -> x.move(person, 0));
        Checks.bad("PLACE", Checks::some, Checks.WRONG_PLACES, (x, place) -> x.move(0, place));
        Checks.bad("PLACE of the last", Checks::all, Checks.WRONG_PLACES, (x, place) -> x.move(6, place));
        Checks.bad("both", Checks::some, FAR, (x, number) -> x.move(number, number));
    }

    private static void dead() {
        says(6, "A TUNE of THE DEAD: its number.");
        WhistledNames x = new WhistledNames();
        is("the least of each", x.dead(4, 0), 0);
        is("the greatest of each", x.dead(2047, 99), 1);
        is("one like another", x.dead(2047, 99), 2);
        is("the fourth", x.dead(64, 50), 3);
        is("the fifth", x.dead(31, 1), 4);
        is("the last there can be", x.dead(7, 98), 5);
        is("all of them", x.count(1), 6);
        is("nobody comes by it", x.count(0), 0);
    }

    private static void deadBad() {
        says(6, "BAD;");
        Checks.badAnywhere("TUNE", Checks.WRONG_TUNES, (x, tune) -> x.dead(tune, 0));
        Checks.badAnywhere("YEAR", new int[] {-1, 100, MIN, MAX}, (x, year) -> x.dead(4, year));
    }

    private static void deadFull() {
        says(6, "FULL: 6.");
        WhistledNames x = new WhistledNames();
        for (int i = 0; i < 5; i++) {
            x.dead(4, i);
        }
        is("the sixth", x.dead(4, 5), 5);
        is("the seventh", x.dead(4, 6), -4);
        is("counted as FULL", x.status(2), 1);
        Checks.refused("the seventh, all else full, too", Checks::all, Checks.FULL, -4, y -> y.dead(2047, 99));
        x.read();
        is("room again", x.dead(4, 0), 0);
    }

    private static void comes() {
        says(7, "What of a TUNE comes in a WIND (as a number; 1: nothing).");
        WhistledNames x = new WhistledNames();
        is("all of the least", x.comes(4, 3), 4);
        is("all of the greatest in WIND 0", x.comes(2047, 0), 2047);
        is("nothing of the greatest in WIND 1", x.comes(2047, 1), 1);
        is("nothing of 1 NOTE", x.comes(5, 3), 1);
        is("1 of 5", x.comes(tune(3, 2, 0, 1, 3), 3), 4);
        is("2 of 5", x.comes(tune(3, 2, 0, 1, 3), 2), tune(0, 1));
        is("3 of 5", x.comes(tune(3, 2, 0, 1, 3), 1), tune(2, 0, 1));
        is("0s ahead are NOTES", x.comes(tune(3, 0, 0), 1), tune(0, 0));
    }

    private static void comesBad() {
        says(7, "BAD.");
        Checks.badAnywhere("TUNE", Checks.WRONG_TUNES, (x, tune) -> x.comes(tune, 0));
        Checks.badAnywhere("WIND", Checks.WRONG_WINDS, (x, wind) -> x.comes(4, wind));
    }

    private static void type() {
        says(8, "The lowest n (1 .. 8) bytes of v, the highest of them first, come to THE TEXT: how many it has.");
        WhistledNames x = new WhistledNames();
        is("1, the least n", x.type(0x123456789abcde00L + 'd', 1), 1);
        is("3 of them", x.type(0x1234567890000000L + 0x656164L, 3), 4);
        is("8, the greatest n", x.type(0x2034203020203b20L, 8), 12);
        is("as they came", x.read(), 1);
        x.clear();
        is("the highest first: its byte above 127", x.type(0xff00000000000000L, 8), 8);
        is("it is first", x.read(), -10);
        x.clear();
        x.type(' ' + 128, 1);
        is("no blank, but for its highest bit", x.read(), -10);
        x.clear();
        x.type(0x20000000000000ffL, 8);
        is("a blank, then 0", x.read(), -11);
        x.clear();
        for (int n = 1; n <= 8; n++) {
            is("so many more, " + n, x.type(Long.MIN_VALUE, n), n * (n + 1) / 2);
        }
        x.clear();
        for (int i = 1; i <= 200; i++) {
            is("one by one, " + i, x.type(-1, 1), i);
        }
    }

    private static void typeBad() {
        says(8, "BAD;");
        int[] wrong = {0, 9, -1, -8, 16, 256, MIN, MAX};
        Checks.badAnywhere("n", wrong, (x, n) -> x.type(' ', n));
        Checks.badAnywhere("n, the greatest v,", wrong, (x, n) -> x.type(Long.MAX_VALUE, n));
    }

    private static void typeFull() {
        says(8, "FULL.");
        for (int n = 1; n <= 8; n++) {
            int more = n;
            is(n + " up to 200", Checks.withText(" ".repeat(200 - n)).type(0, n), 200);
            Checks.refused(n + " up to 201", () -> Checks.withText(" ".repeat(201 - more)), Checks.FULL, -4,
                    x -> x.type(0, more));
            Checks.refused(n + " more than 200", Checks::all, Checks.FULL, -4, x -> x.type(0, more));
        }
        WhistledNames x = Checks.withText(" ".repeat(199));
        x.type(0, 2);
        is("none of them has come", x.type(' ', 1), 200);
        is("nor is it there", x.read(), 0);
    }

    private static void clear() {
        says(9, "THE TEXT is empty: how many it had.");
        WhistledNames x = new WhistledNames();
        is("none", x.clear(), 0);
        x.type('x', 1);
        is("one", x.clear(), 1);
        is("none left", x.count(3), 0);
        is("cleared twice", x.clear(), 0);
        is("none is no refusal", Checks.refusedSoFar(x), 0);
        is("no FAULT of what it had", x.read(), 0);
        WhistledNames all = Checks.all();
        is("as many as can be", all.clear(), 200);
        is("room for as many", all.type(0, 8), 8);
        is("all else stays", all.count(0) + all.count(1) + all.count(2), 21);
        is("no refusal", Checks.refusedSoFar(all), 0);
    }

    private static void readItems() {
        says(10, "THE GORGE is read: how many ITEMS.");
        is("none, of nothing", new WhistledNames().read(), 0);
        is("none, of blanks", Checks.withText("  ").read(), 0);
        is("one", Checks.withText("dead 4 0;").read(), 1);
        is("as many as can be", Checks.withText("hears 0 1 0;".repeat(16) + "dead4 0;").read(), 17);
        WhistledNames x = Checks.withText("one 0 4 0 0;one 1 5 0 0;dead 4 0;hears 0 1 2;");
        is("four", x.read(), 4);
        is("PEOPLE", x.count(0), 2);
        is("THE DEAD", x.count(1), 1);
        is("HEARS", x.hears(1, 0, 2), 2);
        is("again", x.read(), 4);
        is("no refusal", Checks.refusedSoFar(x), 0);
    }

    private static void readFault() {
        says(10, "-10 less the FAULT;");
        is("0, the least", Checks.withText(";").read(), -10);
        is("1", Checks.withText(" ;").read(), -11);
        is("199, the last byte", Checks.withText(" ".repeat(199) + ";").read(), -209);
        is("200, the length, the greatest", Checks.withText(" ".repeat(196) + "dead").read(), -210);
        is("ahead of an ITEM that is refused", Checks.withText("dead 3 0;?").read(), -19);
        WhistledNames x = Checks.withText("?");
        x.read();
        is("in no STATUS", Checks.refusedSoFar(x), 0);
    }

    private static void readRefused() {
        says(10, "-1000 less the number of the first ITEM that is refused:");
        is("0, the least", Checks.withText("dead 3 0;").read(), -1000);
        is("1", Checks.withText("dead 4 0;dead 3 0;").read(), -1001);
        is("the first of two", Checks.withText("dead 4 0;dead 3 0;dead 3 0;").read(), -1001);
        is("16, the greatest but one", Checks.withText("hears 0 1 0;".repeat(16) + "dead3 0;").read(), -1016);
        is("one too many", Checks.withText("dead4 0;".repeat(7)).read(), -1006);
        is("as many as can be", Checks.withText("dead4 0;".repeat(6)).read(), 6);
        WhistledNames x = Checks.withText("dead 3 0;");
        x.read();
        is("in no STATUS", Checks.refusedSoFar(x), 0);
    }

    private static void readNothingChanges() {
        says(10, "nothing changes.");
        String[] texts = {"dead 3 0;", "one 0 4 0 0;dead 3 0;", "hears 0 1 3;hears 0 0 0;", "one 0 4 0 0;".repeat(8),
            "dead", "one 0 4 0 0;?"};
        for (String text : texts) {
            Checks.Gorge[] gorges = {Checks::empty, Checks::some, Checks::all};
            for (Checks.Gorge gorge : gorges) {
                WhistledNames x = gorge.make();
                WhistledNames y = gorge.make();
                x.clear();
                y.clear();
                Checks.type(x, text);
                Checks.type(y, text);
                x.read();
                Checks.same("read of " + text, Checks.seen(x), Checks.seen(y));
            }
        }
        WhistledNames x = Checks.withText("one 0 4 0 0;dead 5 1;");
        x.read();
        x.whistle(0, 4, 0);
        Checks.type(x, "dead 4 0;one 9 9 9 9;");
        long digest = x.digest();
        is("after one that was read", x.read(), -1003);
        is("that one stays", x.digest(), digest);
    }

    // ---- calls

    private static void call() {
        says(11, "CALL, as bits.");
        is("nobody there", Checks.empty().call(5, 2047, 3), 0);
        WhistledNames seven = Checks.together(PLAIN, 4, 4, 4, 4, 4, 4, 4);
        is("all there can be", seven.call(0, 4, 0), 127);
        is("nobody TURNS", seven.call(0, 5, 0), 0);
        seven.rename(0, 5);
        is("the first one alone", seven.call(0, 5, 3), 0);
        is("the first one alone, in WIND 2", seven.call(0, 5, 2), 1);
        seven.rename(6, 6);
        is("the last one alone", seven.call(0, 6, 0), 64);
        is("from the greatest PLACE", seven.call(5, 6, 0), 0);
        is("it is not told", seven.count(2), 0);
    }

    private static void callBad() {
        says(11, "BAD.");
        Checks.badAnywhere("PLACE", Checks.WRONG_PLACES, (x, place) -> x.call(place, 4, 0));
        Checks.badAnywhere("TUNE", Checks.WRONG_TUNES, (x, tune) -> x.call(0, tune, 0));
        Checks.badAnywhere("WIND", Checks.WRONG_WINDS, (x, wind) -> x.call(0, 4, wind));
    }

    private static void whistle() {
        says(12, "A CALL is told: its number.");
        WhistledNames x = Checks.withOne(PLAIN, 4);
        is("the first", x.whistle(0, 4, 3), 0);
        is("the second, of nobody", x.whistle(5, 2047, 3), 1);
        is("how many", x.count(2), 2);
        is("who TURNED at the first", x.turned(0), 1);
        is("who TURNED at the second", x.turned(1), 0);
        is("with nobody there", Checks.empty().whistle(0, 1024, 0), 0);
    }

    private static void whistleBad() {
        says(12, "BAD;");
        Checks.badAnywhere("PLACE", Checks.WRONG_PLACES, (x, place) -> x.whistle(place, 4, 0));
        Checks.badAnywhere("TUNE", Checks.WRONG_TUNES, (x, tune) -> x.whistle(0, tune, 0));
        Checks.badAnywhere("WIND", Checks.WRONG_WINDS, (x, wind) -> x.whistle(0, 4, wind));
    }

    private static void whistleFull() {
        says(12, "FULL: 8.");
        WhistledNames x = Checks.withOne(PLAIN, 4);
        for (int i = 0; i < 7; i++) {
            x.whistle(0, 4, 0);
        }
        is("the eighth", x.whistle(0, 4, 0), 7);
        is("the ninth", x.whistle(0, 4, 0), -4);
        is("still eight", x.count(2), 8);
        is("counted as FULL", x.status(2), 1);
        Checks.refused("the ninth, all else full, too", Checks::all, Checks.FULL, -4, y -> y.whistle(5, 2047, 3));
    }

    private static void turned() {
        says(13, "Who TURNED at a CALL told (as it was then), as bits.");
        WhistledNames x = Checks.together(PLAIN, 4, 4, 4, 4, 4, 4);
        x.whistle(0, 4, 0);
        x.one(PLAIN, 4, 0, 0);
        for (int i = 1; i < 7; i++) {
            x.whistle(0, 4, 0);
        }
        x.whistle(1, 4, 0);
        is("the first, of six", x.turned(0), 63);
        is("the second, of all seven", x.turned(1), 127);
        is("the last there can be, of nobody", x.turned(7), 0);
        x.rename(0, 31);
        x.move(1, 3);
        is("as it was then", x.turned(1), 127);
        is("asked again", x.turned(1), 127);
        x.image(0);
        x.undo();
        x.from(0);
        is("from an IMAGE", x.turned(6), 127);
    }

    private static void turnedBad() {
        says(13, "BAD.");
        Checks.bad("none told, CALL", Checks::empty, new int[] {0, -1, 1, 7, MIN, MAX}, (x, call) -> x.turned(call));
        Checks.bad("two told, CALL", Checks::some, new int[] {-1, 2, 7, MIN, MAX}, (x, call) -> x.turned(call));
        Checks.bad("eight told, CALL", Checks::all, new int[] {-1, 8, 9, MIN, MAX}, (x, call) -> x.turned(call));
    }

    private static void heardOf() {
        says(14, "HEARD OF one.");
        WhistledNames x = Checks.withPeople(7);
        is("no CALLS", x.heardOf(0), 0);
        for (int i = 0; i < 8; i++) {
            x.whistle(0, i < 3 ? 4 : 6, 0);
        }
        is("the first one", x.heardOf(0), 3);
        is("the last one", x.heardOf(6), 5);
        is("one who is elsewhere", x.heardOf(2), 0);
        x.rename(0, 6);
        is("as it was then", x.heardOf(0), 3);
    }

    private static void heardOfBad() {
        says(14, "BAD.");
        Checks.badPerson("PERSON", (x, person) -> x.heardOf(person));
    }

    private static void undo() {
        says(15, "UNDO: how many CALLS are left.");
        WhistledNames x = Checks.all();
        for (int left = 7; left >= 0; left--) {
            is("left", x.undo(), left);
            is("count", x.count(2), left);
        }
        is("no refusal", Checks.refusedSoFar(x), 0);
    }

    private static void undoNo() {
        says(15, "NO: there is none.");
        Checks.refused("none told", Checks::empty, Checks.NO, -3, x -> x.undo());
        Checks.refused("none left", () -> {
            WhistledNames x = Checks.some();
            x.undo();
            x.undo();
            return x;
        }, Checks.NO, -3, x -> x.undo());
        Checks.refused("none after read", () -> {
            WhistledNames x = Checks.all();
            x.read();
            return x;
        }, Checks.NO, -3, x -> x.undo());
    }

    // ---- tunes for all

    private static void taken() {
        says(16, "Whether a TUNE of a is TAKEN for b's: 1, 0.");
        WhistledNames x = Checks.together(PLAIN, 4, 5, 6, 7, 16, 5);
        x.one(HALF, tune(0, 3), 0, 0);
        is("the first one's for the last one's", x.taken(0, 6), 1);
        is("the last one's for the first one's", x.taken(6, 0), 1);
        is("of 0 0, for HALF 0", x.taken(4, 6), 1);
        is("not the other way", x.taken(6, 4), 0);
        is("two alike", x.taken(1, 5), 1);
        is("two others", x.taken(1, 2), 0);
    }

    private static void takenBad() {
        says(16, "BAD: alike, too.");
        Checks.bad("alike, of three,", Checks::some, new int[] {0, 1, 2}, (x, person) -> x.taken(person, person));
        Checks.bad("alike, of seven,", Checks::all, new int[] {0, 3, 6}, (x, person) -> x.taken(person, person));
        Checks.badPerson("a", (x, a) -> x.taken(a, 0));
        Checks.badPerson("b", (x, b) -> x.taken(0, b));
        Checks.badPerson("both", (x, both) -> x.taken(both, both));
    }

    private static void clash() {
        says(17, "CLASH: how many (0), the first (1).");
        is("none", Checks.together(PLAIN, 4, 5, 6, 7).clash(0), 0);
        WhistledNames one = Checks.together(PLAIN, 4, 5, 4);
        is("one", one.clash(0), 1);
        is("the first, where there is one", one.clash(1), 2);
        WhistledNames seven = Checks.together(BLIND, 4, 4, 4, 4, 4, 4, 4);
        is("as many as can be", seven.clash(0), 21);
        is("the first of as many", seven.clash(1), 1);
        is("no refusal", Checks.refusedSoFar(seven), 0);
    }

    private static void clashBad() {
        says(17, "BAD;");
        Checks.badAnywhere("what", new int[] {-1, 2, MIN, MAX}, (x, what) -> x.clash(what));
    }

    private static void clashNo() {
        says(17, "NO: none but for 0.");
        Checks.refused("nobody there", Checks::empty, Checks.NO, -3, x -> x.clash(1));
        Checks.refused("one alone", () -> Checks.withOne(PLAIN, 4), Checks.NO, -3, x -> x.clash(1));
        Checks.refused("two who are not taken", () -> Checks.together(PLAIN, 4, 5), Checks.NO, -3, x -> x.clash(1));
        WhistledNames x = new WhistledNames();
        is("but for 0", x.clash(0), 0);
        is("but for 0, no refusal", Checks.refusedSoFar(x), 0);
    }

    private static void alter() {
        says(18, "ALTER, as bits.");
        is("nobody there", Checks.empty().alter(), 0);
        is("nobody must", Checks.together(PLAIN, 4, 5, 6, 7).alter(), 0);
        is("the first one", Checks.together(PLAIN, 4, 4).alter(), 1);
        is("all but the last one", Checks.together(LISP, 5, 6, 5, 6, 5, 6, 5).alter(), 63);
        WhistledNames star = Checks.together(PLAIN, tune(1, 0), tune(1, 0, 0), tune(1, 0, 0, 0), tune(1, 3),
                tune(1, 2, 0), tune(1, 2, 3));
        star.one(HALF, tune(1, 1), 0, 0);
        is("the last one may be one of them", star.alter() & 64, 64);
        WhistledNames x = Checks.together(PLAIN, 4, 4);
        long digest = x.digest();
        x.alter();
        is("nobody changes by it", x.digest(), digest);
    }

    private static void names() {
        says(19, "NAMES: NOTES in all (person = NONE), one's TUNE.");
        is("nobody there", Checks.empty().names(-1), 0);
        WhistledNames x = Checks.together(PLAIN, 31, 31, 31, 31, 31);
        is("NOTES in all", x.names(WhistledNames.NONE), 6);
        is("the first one's", x.names(0), 4);
        is("the last one's", x.names(4), 16);
        WhistledNames bird = Checks.together(BIRD, 4, 4);
        is("BIRD: in all", bird.names(-1), 2);
        WhistledNames blind = Checks.together(BLIND, 4, 4, 4, 4, 4);
        is("BLIND: in all", blind.names(-1), 6);
        is("DULL: as HALF, one of four begins", Checks.together(DULL, 4, 4, 4, 4).names(3), 7);
    }

    private static void namesNone() {
        says(19, "NONE: there are none.");
        WhistledNames x = new WhistledNames();
        x.one(DULL, 4, 0, 1);
        x.one(HALF, 4, 0, 1);
        is("NOTES in all", x.names(-1), -1);
        is("the first one's", x.names(0), -1);
        is("the last one's", x.names(1), -1);
        is("no refusal", Checks.refusedSoFar(x), 0);
        is("five, of four first NOTES", Checks.together(HALF, 4, 4, 4, 4, 4).names(-1), -1);
    }

    private static void namesBad() {
        says(19, "BAD: -10;");
        Checks.badAs(-10, "nobody there,", Checks::empty, new int[] {0, -2, 1, MIN, MAX}, (x, who) -> x.names(who));
        Checks.badAs(-10, "three there,", Checks::some, new int[] {3, -2, 5, MIN, MAX}, (x, who) -> x.names(who));
        Checks.badAs(-10, "five there,", () -> Checks.withPeople(5), new int[] {5, -2}, (x, who) -> x.names(who));
        Checks.badAs(-10, "seven there,", Checks::all, new int[] {7, -2, MIN, MAX}, (x, who) -> x.names(who));
    }

    private static void namesNo() {
        says(19, "NO: -20: more than 5 PEOPLE.");
        is("5", Checks.withPeople(5).names(-1), 5);
        for (int person = -1; person < 6; person++) {
            int who = person;
            Checks.refused("6, of " + who, () -> Checks.withPeople(6), Checks.NO, -20, x -> x.names(who));
            Checks.refused("7, of " + who, Checks::all, Checks.NO, -20, x -> x.names(who));
        }
        Checks.refused("7, of the last", Checks::all, Checks.NO, -20, x -> x.names(6));
    }

    private static void bride() {
        says(20, "BRIDE.");
        is("the least of all", Checks.withOne(PLAIN, 4).bride(0), 4);
        is("1 NOTE", Checks.withOne(PLAIN, 7).bride(0), 7);
        is("5 NOTES", Checks.withOne(PLAIN, 2047).bride(0), tune(3, 0, 0, 0, 0));
        WhistledNames seven = Checks.together(BLIND, 16, 17, 18, 4, 5, 6, 19);
        is("the last of her NOTES", seven.bride(6), 19);
        is("the last one is left to the first", seven.bride(0), 16);
        WhistledNames x = Checks.withOne(PLAIN, 31);
        long digest = x.digest();
        is("another one", x.bride(0), 28);
        is("she keeps hers till she is renamed", x.digest(), digest);
    }

    private static void brideNone() {
        says(20, "NONE.");
        WhistledNames x = Checks.together(PLAIN, 4, 4);
        is("1 NOTE, another's", x.bride(0), -1);
        is("the other one", x.bride(1), -1);
        is("no refusal", Checks.refusedSoFar(x), 0);
        is("all four are others'", Checks.together(BLIND, 16, 17, 18, 19, 16).bride(4), -1);
    }

    private static void brideBad() {
        says(20, "BAD.");
        Checks.badPerson("PERSON", (x, person) -> x.bride(person));
    }

    private static void thief() {
        says(21, "THIEF.");
        is("1, the least", Checks.withOne(HALF, tune(0, 0)).thief(0, 3, 0), 1);
        is("5, the greatest", Checks.withOne(PLAIN, 1024).thief(0, 3, 0), 5);
        WhistledNames seven = Checks.withPeople(7);
        seven.move(5, 0);
        seven.rename(6, tune(1, 2));
        is("the last one", seven.thief(0, 0, 6), 2);
        is("the last one but one", seven.thief(0, 0, 5), 1);
        is("from a PLACE that hears none of them", seven.thief(5, 0, 5), -1);
    }

    private static void thiefNone() {
        says(21, "NONE.");
        WhistledNames x = Checks.together(PLAIN, 4, 4);
        is("never alone", x.thief(0, 0, 0), -1);
        is("not heard", x.thief(1, 0, 0), -1);
        is("no refusal", Checks.refusedSoFar(x), 0);
    }

    private static void thiefBad() {
        says(21, "BAD.");
        Checks.bad("PLACE", Checks::some, Checks.WRONG_PLACES, (x, place) -> x.thief(place, 0, 0));
        Checks.bad("WIND", Checks::some, Checks.WRONG_WINDS, (x, wind) -> x.thief(0, wind, 0));
        Checks.badPerson("PERSON", (x, person) -> x.thief(0, 0, person));
    }

    private static void whistled() {
        says(22, "WHISTLED: how many (0), the least (1).");
        is("nobody there: how many", Checks.empty().whistled(0, 0, 0, 0), 1364);
        is("nobody there: the least", Checks.empty().whistled(0, 0, 0, 1), 4);
        WhistledNames x = Checks.together(BLIND, 2047, 1024, 4);
        is("the greatest there is", x.whistled(0, 3, 1, 1), 2047);
        is("of 5 NOTES the least", x.whistled(0, 3, 2, 1), 1024);
        is("the least there is", x.whistled(0, 3, 4, 1), 4);
        is("one", x.whistled(0, 3, 4, 0), 1);
        is("the others: how many", x.whistled(0, 3, 0, 0), 1361);
        is("the others: the least", x.whistled(0, 3, 0, 1), 5);
        is("none", x.whistled(0, 3, 3, 0), 0);
        is("none is no refusal", Checks.refusedSoFar(x), 0);
        is("all seven", Checks.together(LISP, 5, 6, 5, 6, 5, 6, 5).whistled(0, 0, 127, 0), 2);
    }

    private static void whistledBad() {
        says(22, "BAD;");
        Checks.badAnywhere("PLACE", Checks.WRONG_PLACES, (x, place) -> x.whistled(place, 0, 0, 0));
        Checks.badAnywhere("WIND", Checks.WRONG_WINDS, (x, wind) -> x.whistled(0, wind, 0, 0));
        Checks.badAnywhere("what", new int[] {-1, 2, MIN, MAX}, (x, what) -> x.whistled(0, 0, 0, what));
        Checks.bad("nobody there, who", Checks::empty, new int[] {1, -1, 2, MIN, MAX},
                (x, who) -> x.whistled(0, 0, who, 0));
        Checks.bad("three there, who", Checks::some, new int[] {8, -1, 15, 64, 128, MIN, MAX},
                (x, who) -> x.whistled(0, 0, who, 0));
        Checks.bad("seven there, who", Checks::all, new int[] {128, -1, 129, 256, MIN, MAX},
                (x, who) -> x.whistled(0, 0, who, 0));
        Checks.taken("three there, who", Checks::some, new int[] {0, 7}, (x, who) -> x.whistled(0, 0, who, 0));
        Checks.taken("seven there, who", Checks::all, new int[] {0, 127}, (x, who) -> x.whistled(0, 0, who, 0));
    }

    private static void whistledNo() {
        says(22, "NO: none but for 0.");
        Checks.refused("two who never TURN at one", () -> Checks.together(BLIND, 4, 5), Checks.NO, -3,
                x -> x.whistled(0, 0, 3, 1));
        Checks.refused("not heard", Checks::all, Checks.NO, -3, x -> x.whistled(0, 0, 127, 1));
        WhistledNames x = Checks.together(BLIND, 4, 5);
        is("but for 0", x.whistled(0, 0, 3, 0), 0);
        is("but for 0, no refusal", Checks.refusedSoFar(x), 0);
    }

    private static void word() {
        says(23, "WORD: NOTES (0), who has it ahead (1).");
        WhistledNames x = new WhistledNames();
        x.one(PLAIN, 4, 0, 0);
        x.one(PLAIN, 21, 1, 0);
        x.one(PLAIN, 1365, 2, 0);
        x.hears(0, 1, 0);
        x.hears(1, 2, 0);
        is("at once: NOTES", x.word(0, 1, 0, 0), 2);
        is("at once: who", x.word(0, 1, 0, 1), 0);
        is("by way of another: NOTES", x.word(0, 2, 0, 0), 7);
        is("by way of another: who", x.word(0, 2, 0, 1), 1);
        is("back: NOTES", x.word(2, 0, 0, 0), 3);
        is("back: who", x.word(2, 0, 0, 1), 1);
        WhistledNames seven = Checks.together(BLIND, 4, 5, 6, 7, 16, 17, 18);
        is("1 NOTE, the fewest, to the first one", seven.word(6, 0, 3, 0), 1);
        is("who has it ahead is the last one", seven.word(6, 0, 3, 1), 6);
        is("to the last one", seven.word(0, 6, 3, 0), 2);
    }

    private static void wordNone() {
        says(23, "NONE: none.");
        WhistledNames x = Checks.withPeople(7);
        is("not heard: NOTES", x.word(0, 1, 0, 0), -1);
        is("not heard: who", x.word(0, 1, 0, 1), -1);
        is("not heard, the last one", x.word(5, 6, 3, 0), -1);
        is("no refusal", Checks.refusedSoFar(x), 0);
    }

    private static void wordBad() {
        says(23, "BAD: alike, too.");
        Checks.bad("alike, of three,", Checks::some, new int[] {0, 1, 2}, (x, who) -> x.word(who, who, 0, 0));
        Checks.bad("alike, of seven,", Checks::all, new int[] {0, 3, 6}, (x, who) -> x.word(who, who, 0, 1));
        Checks.badPerson("from", (x, from) -> x.word(from, 0, 0, 0));
        Checks.badPerson("to", (x, to) -> x.word(0, to, 0, 0));
        Checks.bad("WIND", Checks::some, Checks.WRONG_WINDS, (x, wind) -> x.word(0, 1, wind, 0));
        Checks.bad("what", Checks::some, new int[] {-1, 2, MIN, MAX}, (x, what) -> x.word(0, 1, 0, what));
    }

    private static void free() {
        says(24, "LEAST FREE for one in a YEAR (0 .. 99).");
        WhistledNames x = Checks.withPeople(7);
        x.dead(2047, 0);
        x.dead(64, 90);
        is("YEAR 0, the least", x.free(0, 0), -1);
        is("YEAR 8", x.free(0, 8), -1);
        is("YEAR 9", x.free(0, 9), 2047);
        is("YEAR 98", x.free(6, 98), 2047);
        is("YEAR 99, the greatest", x.free(6, 99), 64);
        for (int i = 0; i < 4; i++) {
            x.dead(1024, 0);
        }
        is("all of THE DEAD there can be", x.free(3, 50), 1024);
        long digest = x.digest();
        x.free(3, 50);
        is("he keeps his own, and THE DEAD stay", x.digest(), digest);
    }

    private static void freeNone() {
        says(24, "NONE.");
        WhistledNames x = Checks.together(PLAIN, 4, 5);
        is("none of THE DEAD", x.free(0, 99), -1);
        x.dead(5, 0);
        is("one, which is another's", x.free(0, 99), -1);
        is("no refusal", Checks.refusedSoFar(x), 0);
    }

    private static void freeBad() {
        says(24, "BAD.");
        Checks.badPerson("PERSON", (x, person) -> x.free(person, 99));
        Checks.bad("YEAR", Checks::some, new int[] {-1, 100, MIN, MAX}, (x, year) -> x.free(0, year));
        Checks.bad("YEAR, all there,", Checks::all, new int[] {-1, 100, MIN, MAX}, (x, year) -> x.free(6, year));
    }

    // ---- what there is

    private static void image() {
        says(25, "An IMAGE is kept: 1.");
        for (int i = 0; i < 2; i++) {
            int image = i;
            is("of nobody, " + i, Checks.empty().image(i), 1);
            WhistledNames x = Checks.all();
            x.clear();
            long digest = x.digest();
            is("of all, " + i, x.image(i), 1);
            is("nothing changes", x.digest(), digest);
            x.undo();
            is("again, of another", x.image(i), 1);
            x.from(i);
            is("the one kept last", x.count(2), 7);
            Checks.refused("the other one is none by it", () -> {
                WhistledNames y = new WhistledNames();
                y.image(1 - image);
                return y;
            }, Checks.NO, -3, y -> y.from(image));
        }
    }

    private static void imageBad() {
        says(25, "BAD.");
        Checks.badAnywhere("i", new int[] {-1, 2, 3, MIN, MAX}, (x, i) -> x.image(i));
    }

    private static void from() {
        says(26, "It goes on from an IMAGE: 1.");
        WhistledNames x = Checks.some();
        long some = x.digest();
        x.image(1);
        is("the first one", x.from(0), 1);
        is("one CALL then", x.count(2), 1);
        is("the second one", x.from(1), 1);
        is("as it was kept", x.digest(), some);
        WhistledNames y = Checks.empty();
        y.image(0);
        Checks.type(y, "one 0 4 0 0;hears 0 1 3;dead 4 0;");
        y.read();
        y.from(0);
        y.clear();
        is("an IMAGE of nobody", y.digest(), Checks.empty().digest());
        is("no refusal", Checks.refusedSoFar(y), 0);
    }

    private static void fromBad() {
        says(26, "BAD;");
        Checks.badAnywhere("i", new int[] {-1, 2, 3, MIN, MAX}, (x, i) -> x.from(i));
    }

    private static void fromNo() {
        says(26, "NO: none was kept.");
        Checks.refused("neither, 0", Checks::empty, Checks.NO, -3, x -> x.from(0));
        Checks.refused("neither, 1", Checks::empty, Checks.NO, -3, x -> x.from(1));
        Checks.refused("0 alone was kept, 1", Checks::some, Checks.NO, -3, x -> x.from(1));
        WhistledNames x = Checks.some();
        x.clear();
        x.read();
        is("it stays kept when a GORGE is read", x.from(0), 1);
    }

    private static void status() {
        says(27, "STATUS: BAD (0), NO (1), FULL (2).");
        WhistledNames x = Checks.all();
        x.one(9, 9, 9, 9);
        x.names(-1);
        x.names(0);
        x.one(0, 4, 0, 0);
        x.dead(4, 0);
        x.type(0, 1);
        is("BAD", x.status(0), 1);
        is("NO", x.status(1), 2);
        is("FULL", x.status(2), 3);
        is("asked again", x.status(0), 1);
        WhistledNames y = new WhistledNames();
        for (int what = 0; what < 3; what++) {
            is("none yet, " + what, y.status(what), 0);
        }
        for (int i = 0; i < 500; i++) {
            y.undo();
        }
        is("as many as calls may be", y.status(1), 500);
    }

    private static void statusOther() {
        says(27, "-1: another what (counts as BAD).");
        Checks.Gorge[] gorges = {Checks::empty, Checks::some, Checks::all};
        for (Checks.Gorge gorge : gorges) {
            Checks.badAs(-1, "what", gorge, new int[] {-1, 3, 4, MIN, MAX}, (x, what) -> x.status(what));
        }
    }

    private static void count() {
        says(28, "How many: 0 PEOPLE, 1 of THE DEAD, 2 CALLS told, 3 bytes of THE TEXT.");
        WhistledNames x = Checks.empty();
        for (int what = 0; what < 4; what++) {
            is("none, " + what, x.count(what), 0);
        }
        WhistledNames all = Checks.all();
        is("PEOPLE, as many as can be", all.count(0), 7);
        is("THE DEAD, as many as can be", all.count(1), 6);
        is("CALLS, as many as can be", all.count(2), 8);
        is("bytes, as many as can be", all.count(3), 200);
        all.one(0, 4, 0, 0);
        all.dead(4, 0);
        all.whistle(0, 4, 0);
        all.type(0, 1);
        is("not more", all.count(0) + all.count(1) + all.count(2) + all.count(3), 221);
    }

    private static void countBad() {
        says(28, "BAD.");
        Checks.badAnywhere("what", new int[] {-1, 4, 5, MIN, MAX}, (x, what) -> x.count(what));
    }

    private static void digestOfNothing() {
        says(29, "h = 757;");
        is("nothing but 0 and NONE", new WhistledNames().digest(), digest(new int[] {0, 0, 0, 0}, winds()));
        WhistledNames x = Checks.all();
        long digest = x.digest();
        is("again", x.digest(), digest);
        is("no refusal", Checks.refusedSoFar(x), 0);
    }

    private static void digestOfCounts() {
        says(29, "then h = 31 h + v for each v: count(0) to count(3);");
        is("3 bytes", Checks.withText("abc").digest(), digest(new int[] {0, 0, 0, 3}, winds()));
        is("200 bytes", Checks.withText("x".repeat(200)).digest(), digest(new int[] {0, 0, 0, 200}, winds()));
        WhistledNames x = new WhistledNames();
        x.whistle(0, 4, 0);
        x.whistle(0, 4, 0);
        x.dead(4, 0);
        is("1 of THE DEAD, 2 CALLS", x.digest(), digest(new int[] {0, 1, 2, 0}, winds(), new int[] {4, 0, 0, 0}));
        BigInteger exact = exactDigest(new int[] {0, 0, 0, 0}, winds());
        is("it wraps around", exact.bitLength() > 64 ? 1 : 0, 1);
        is("to the lowest 64 bits", new WhistledNames().digest(), exact.longValue());
    }

    private static void digestOfPlaces() {
        says(29, "of PLACES 1 to 5 with all lesser ones the greatest WIND (NONE);");
        int at = 0;
        for (int p = 1; p < 6; p++) {
            for (int q = 0; q < p; q++) {
                for (int wind = 0; wind < 4; wind++) {
                    WhistledNames x = new WhistledNames();
                    x.hears(q, p, wind);
                    int[] row = winds();
                    row[at] = wind;
                    is("PLACES " + p + " and " + q + " by WIND " + wind, x.digest(),
                            digest(new int[] {0, 0, 0, 0}, row));
                }
                at++;
            }
        }
        WhistledNames x = new WhistledNames();
        x.hears(0, 1, 3);
        x.hears(0, 1, -1);
        is("not any more", x.digest(), new WhistledNames().digest());
    }

    private static void digestOfPeople() {
        says(29, "of PEOPLE EAR, TUNE, PLACE, KIN;");
        WhistledNames x = new WhistledNames();
        x.one(DULL, 2047, 4, 3);
        is("one", x.digest(), digest(new int[] {1, 0, 0, 0}, winds(), new int[] {DULL, 2047, 4, 3}));
        x.one(PLAIN, 4, 0, 0);
        x.one(BIRD, 31, 5, 2);
        int[] three = {DULL, 2047, 4, 3, PLAIN, 4, 0, 0, BIRD, 31, 5, 2};
        is("three", x.digest(), digest(new int[] {3, 0, 0, 0}, winds(), three));
        int[] row = new int[28];
        WhistledNames seven = new WhistledNames();
        for (int i = 0; i < 7; i++) {
            seven.one(i % 6, 64 + i, 5 - i % 6, i % 4);
            row[4 * i] = i % 6;
            row[4 * i + 1] = 64 + i;
            row[4 * i + 2] = 5 - i % 6;
            row[4 * i + 3] = i % 4;
        }
        is("all there can be", seven.digest(), digest(new int[] {7, 0, 0, 0}, winds(), row));
    }

    private static void digestOfTheDead() {
        says(29, "of THE DEAD TUNE, YEAR;");
        WhistledNames x = new WhistledNames();
        x.dead(4, 99);
        is("one", x.digest(), digest(new int[] {0, 1, 0, 0}, winds(), new int[] {4, 99}));
        for (int i = 1; i < 6; i++) {
            x.dead(2047, i);
        }
        int[] six = {4, 99, 2047, 1, 2047, 2, 2047, 3, 2047, 4, 2047, 5};
        is("all there can be", x.digest(), digest(new int[] {0, 6, 0, 0}, winds(), six));
        x.one(PLAIN, 5, 1, 2);
        is("after PEOPLE", x.digest(), digest(new int[] {1, 6, 0, 0}, winds(), new int[] {PLAIN, 5, 1, 2}, six));
    }

    private static void digestOfCalls() {
        says(29, "of CALLS told who TURNED.");
        WhistledNames x = Checks.together(PLAIN, 4);
        int[] one = {PLAIN, 4, 0, 0};
        x.whistle(0, 4, 0);
        is("one", x.digest(), digest(new int[] {1, 0, 1, 0}, winds(), one, new int[] {1}));
        x.dead(4, 7);
        is("after THE DEAD", x.digest(), digest(new int[] {1, 1, 1, 0}, winds(), one, new int[] {4, 7, 1}));
        for (int i = 1; i < 8; i++) {
            x.whistle(i % 2, 4, 0);
        }
        int[] calls = {4, 7, 1, 0, 1, 0, 1, 0, 1, 0};
        is("all there can be", x.digest(), digest(new int[] {1, 1, 8, 0}, winds(), one, calls));
        x.rename(0, 5);
        one[1] = 5;
        is("as it was then", x.digest(), digest(new int[] {1, 1, 8, 0}, winds(), one, calls));
        x.undo();
        is("not those taken back", x.digest(), digest(new int[] {1, 1, 7, 0}, winds(), one,
                new int[] {4, 7, 1, 0, 1, 0, 1, 0, 1}));
    }

    /** The greatest WINDS of the 15 pairs of PLACES, at first. */
    private static int[] winds() {
        int[] winds = new int[15];
        java.util.Arrays.fill(winds, -1);
        return winds;
    }

    private static BigInteger exactDigest(int[]... rows) {
        BigInteger h = BigInteger.valueOf(757);
        for (int[] row : rows) {
            for (int v : row) {
                h = h.multiply(BigInteger.valueOf(31)).add(BigInteger.valueOf(v));
            }
        }
        return h;
    }

    private static long digest(int[]... rows) {
        return exactDigest(rows).longValue();
    }
}
