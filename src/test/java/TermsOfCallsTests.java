/** "Terms", its first part, sentence by sentence: NOTES, TUNES, PLACES, WINDS, HEARS, PEOPLE, EARS, CALL. */
final class TermsOfCallsTests {
    private static final Checks.CallWith[] TAKE_A_TUNE = {(x, tune) -> x.one(0, tune, 0, 0),
        (x, tune) -> x.rename(0, tune), (x, tune) -> x.dead(tune, 0), (x, tune) -> x.comes(tune, 0),
        (x, tune) -> x.call(0, tune, 0), (x, tune) -> x.whistle(0, tune, 0)};
    private static final String[] TUNE_CALLS = {"one, TUNE", "rename, TUNE", "dead, TUNE", "comes, TUNE",
        "call, TUNE", "whistle, TUNE"};

    private static final Checks.CallWith[] TAKE_A_PLACE = {(x, place) -> x.one(0, 4, place, 0),
        (x, place) -> x.move(0, place), (x, place) -> x.call(place, 4, 0), (x, place) -> x.whistle(place, 4, 0),
        (x, place) -> x.thief(place, 0, 0), (x, place) -> x.whistled(place, 0, 0, 0)};
    private static final String[] PLACE_CALLS = {"one, PLACE", "move, PLACE", "call, PLACE", "whistle, PLACE",
        "thief, PLACE", "whistled, PLACE"};

    private static final Checks.CallWith[] TAKE_A_WIND = {(x, wind) -> x.comes(4, wind),
        (x, wind) -> x.call(0, 4, wind), (x, wind) -> x.whistle(0, 4, wind), (x, wind) -> x.thief(0, wind, 0),
        (x, wind) -> x.whistled(0, wind, 0, 0), (x, wind) -> x.word(0, 1, wind, 0)};
    private static final String[] WIND_CALLS = {"comes, WIND", "call, WIND", "whistle, WIND", "thief, WIND",
        "whistled, WIND", "word, WIND"};

    private TermsOfCallsTests() {
    }

    static void run() {
        notes();
        notesOfATune();
        tunesAsNumbers();
        places();
        winds();
        lost();
        hearsEitherWay();
        hearsUpToTheGreatestWind();
        notHeardAtFirst();
        hearsItself();
        people();
        kin();
        whatComes();
        ears();
        plain();
        lisp();
        half();
        middleOne();
        halfLessLost();
        bird();
        blind();
        dull();
        nothingComes();
        nothingLeftOfTheTune();
        nothingLeftOfTheHalf();
        call();
    }

    private static void says(String sentence) {
        Checks.says("Terms", sentence);
    }

    private static void is(String what, long got, long due) {
        Checks.is(what, got, due);
    }

    private static int tune(int... notes) {
        return Checks.tune(notes);
    }

    /** Whether one with that EAR and TUNE TURNS at a TUNE whistled at his own PLACE. */
    private static void turns(String what, int ear, int own, int whistled, int wind, boolean due) {
        is("EAR " + ear + ", " + what, Checks.withOne(ear, own).call(0, whistled, wind), due ? 1 : 0);
    }

    // ---- notes, tunes, places, winds

    private static void notes() {
        says("3 (3 the highest).");
        WhistledNames x = Checks.empty();
        is("NOTE 0, the least", x.comes(4, 0), 4);
        is("NOTE 3, the greatest", x.comes(7, 0), 7);
        is("NOTES 0 and 3", x.comes(tune(0, 3), 0), tune(0, 3));
        is("the highest is LOST first", x.comes(tune(0, 1, 2, 3), 1), tune(0, 1, 2));
        is("the lowest is LOST last", x.comes(tune(0, 1, 2, 3), 3), tune(0));
        Checks.bad("below NOTE 0", Checks::some, new int[] {3}, (y, number) -> y.comes(number, 0));
        Checks.bad("above NOTE 3", Checks::some, new int[] {8}, (y, number) -> y.comes(number, 0));
    }

    private static void notesOfATune() {
        says("A TUNE has 1 to 5 NOTES;");
        for (int i = 0; i < TAKE_A_TUNE.length; i++) {
            Checks.taken(TUNE_CALLS[i] + " of 1 NOTE", Checks::some, new int[] {4, 7}, TAKE_A_TUNE[i]);
            Checks.taken(TUNE_CALLS[i] + " of 5", Checks::some, new int[] {1024, 2047}, TAKE_A_TUNE[i]);
            Checks.bad(TUNE_CALLS[i] + " of none", Checks::some, new int[] {1}, TAKE_A_TUNE[i]);
            Checks.bad(TUNE_CALLS[i] + " of 6", Checks::some, new int[] {4096, 8191}, TAKE_A_TUNE[i]);
        }
    }

    private static void tunesAsNumbers() {
        says("it is told as a number: a 1, then each NOTE, as digits to the base 4 (4 to 7, 16 to 31, 64 to 127, "
                + "256 to 511, 1024 to 2047).");
        for (int i = 0; i < TAKE_A_TUNE.length; i++) {
            Checks.taken(TUNE_CALLS[i], Checks::some, Checks.RIGHT_TUNES, TAKE_A_TUNE[i]);
            Checks.bad(TUNE_CALLS[i], Checks::some, Checks.WRONG_TUNES, TAKE_A_TUNE[i]);
        }
        is("NOTES 3 0 2 as digits", Checks.empty().comes(64 + 3 * 16 + 2, 0), tune(3, 0, 2));
        WhistledNames x = null;
        int taken = 0;
        for (int number = -300; number < 4300; number++) {
            // An object is used for so many calls at most.
            x = number % 500 == 0 || x == null ? Checks.empty() : x;
            taken += x.comes(number, 0) >= 0 ? 1 : 0;
        }
        is("all numbers taken", taken, 4 + 16 + 64 + 256 + 1024);
    }

    private static void places() {
        says("PLACES 0 .. 5;");
        for (int i = 0; i < TAKE_A_PLACE.length; i++) {
            Checks.taken(PLACE_CALLS[i], Checks::some, new int[] {0, 1, 2, 3, 4, 5}, TAKE_A_PLACE[i]);
            Checks.bad(PLACE_CALLS[i], Checks::some, Checks.WRONG_PLACES, TAKE_A_PLACE[i]);
        }
        Checks.taken("hears, first PLACE", Checks::some, new int[] {1, 5}, (x, p) -> x.hears(p, 0, 0));
        Checks.taken("hears, second PLACE", Checks::some, new int[] {0, 5}, (x, q) -> x.hears(1, q, 0));
        Checks.badAs(-10, "hears, first PLACE", Checks::some, Checks.WRONG_PLACES, (x, p) -> x.hears(p, 0, 0));
        Checks.badAs(-10, "hears, second PLACE", Checks::some, Checks.WRONG_PLACES, (x, q) -> x.hears(1, q, 0));
    }

    private static void winds() {
        says("WINDS 0 .. 3:");
        for (int i = 0; i < TAKE_A_WIND.length; i++) {
            Checks.taken(WIND_CALLS[i], Checks::some, new int[] {0, 1, 2, 3}, TAKE_A_WIND[i]);
            Checks.bad(WIND_CALLS[i], Checks::some, Checks.WRONG_WINDS, TAKE_A_WIND[i]);
        }
        Checks.taken("hears, WIND", Checks::some, new int[] {0, 1, 2, 3}, (x, w) -> x.hears(0, 1, w));
        Checks.badAs(-10, "hears, WIND", Checks::some, new int[] {-2, 4}, (x, w) -> x.hears(0, 1, w));
    }

    private static void lost() {
        says("by WIND w NOTES above 3 less w are LOST (left out).");
        for (int wind = 0; wind < 4; wind++) {
            for (int note = 0; note < 4; note++) {
                int left = note > 3 - wind ? 1 : 4 + note;
                is("NOTE " + note + " in WIND " + wind, Checks.empty().comes(4 + note, wind), left);
            }
        }
        WhistledNames x = Checks.empty();
        int[] due = {tune(3, 0, 2, 1, 0), tune(0, 2, 1, 0), tune(0, 1, 0), tune(0, 0)};
        for (int wind = 0; wind < 4; wind++) {
            is("five NOTES in WIND " + wind, x.comes(tune(3, 0, 2, 1, 0), wind), due[wind]);
        }
    }

    // ---- who hears

    private static void hearsEitherWay() {
        says("HEARS: one PLACE from another one (either way),");
        for (int p = 0; p < 6; p++) {
            for (int q = 0; q < 6; q++) {
                if (p == q) {
                    continue;
                }
                WhistledNames x = Checks.withOne(Checks.PLAIN, 4);
                x.hears(p, q, 2);
                x.move(0, q);
                is("at " + q + ", from " + p, x.call(p, 4, 2), 1);
                x.move(0, p);
                is("at " + p + ", from " + q, x.call(q, 4, 2), 1);
                is("as told the other way, " + q + " " + p, x.hears(q, p, 1), 2);
                is("as told this way, " + p + " " + q, x.hears(p, q, 3), 1);
            }
        }
    }

    private static void hearsUpToTheGreatestWind() {
        says("by WINDS up to a greatest one told");
        for (int greatest = 0; greatest < 4; greatest++) {
            WhistledNames x = Checks.withOne(Checks.PLAIN, 4);
            x.hears(0, 1, greatest);
            for (int wind = 0; wind < 4; wind++) {
                int due = wind <= greatest ? 1 : 0;
                is("greatest " + greatest + ", in WIND " + wind, x.call(1, 4, wind), due);
            }
        }
        WhistledNames x = Checks.withOne(Checks.PLAIN, 4);
        x.hears(0, 1, 3);
        x.hears(0, 1, 1);
        is("the one told last: in WIND 1", x.call(1, 4, 1), 1);
        is("the one told last: in WIND 2", x.call(1, 4, 2), 0);
        x.hears(1, 2, 3);
        is("not by way of a third PLACE", x.call(2, 4, 0), 0);
    }

    private static void notHeardAtFirst() {
        says("(none, at first: not heard);");
        WhistledNames x = new WhistledNames();
        for (int place = 0; place < 6; place++) {
            x.one(Checks.BLIND, 4, place, 0);
        }
        for (int place = 0; place < 6; place++) {
            is("in WIND 0 from " + place, x.call(place, 4, 0), 1 << place);
        }
        for (int p = 1; p < 6; p++) {
            for (int q = 0; q < p; q++) {
                is("the greatest WIND, " + p + " " + q, Checks.empty().hears(p, q, 0), -1);
            }
        }
    }

    private static void hearsItself() {
        says("from itself always.");
        WhistledNames x = Checks.withOne(Checks.PLAIN, 4);
        for (int place = 0; place < 6; place++) {
            x.move(0, place);
            for (int other = 0; other < 6; other++) {
                x.hears(place, other, -1);
            }
            for (int wind = 0; wind < 4; wind++) {
                is("PLACE " + place + " in WIND " + wind, x.call(place, 4, wind), 1);
            }
        }
    }

    // ---- people and their ears

    private static void people() {
        says("PEOPLE 0 .. 6, as they come:");
        WhistledNames x = new WhistledNames();
        for (int i = 0; i < 7; i++) {
            is("who comes after " + i, x.one(i % 6, 4 + i % 4, 0, 0), i);
            is("then there are", x.count(0), i + 1);
            is("his TUNE", x.rename(i, 4 + i % 4), 4 + i % 4);
        }
        Checks.refused("an eighth one", Checks::all, Checks.FULL, -4, y -> y.one(0, 4, 0, 0));
        Checks.bad("PERSON, of seven,", Checks::all, new int[] {-1, 7}, (y, person) -> y.rename(person, 4));
        Checks.taken("PERSON, of seven,", Checks::all, new int[] {0, 6}, (y, person) -> y.rename(person, 4));
    }

    private static void kin() {
        says("an EAR, a TUNE, a PLACE, KIN (0 .. 3).");
        Checks.taken("KIN", Checks::some, new int[] {0, 1, 2, 3}, (x, kin) -> x.one(5, 2047, 5, kin));
        Checks.bad("KIN", Checks::some, new int[] {-1, 4, Checks.MIN, Checks.MAX}, (x, kin) -> x.one(0, 4, 0, kin));
        long h = 757;
        int[] row = {1, 0, 0, 0, -1, -1, -1, -1, -1, -1, -1, -1, -1, -1, -1, -1, -1, -1, -1, 3, 2046, 4, 2};
        for (int v : row) {
            h = 31 * h + v;
        }
        WhistledNames x = new WhistledNames();
        x.one(3, 2046, 4, 2);
        is("the digest of EAR 3, TUNE 2046, PLACE 4, KIN 2", x.digest(), h);
    }

    private static void whatComes() {
        says("What is whistled comes to one as it is with LOST NOTES left out.");
        turns("as it is", Checks.PLAIN, tune(0, 1), tune(0, 1), 0, true);
        turns("nothing LOST in WIND 0", Checks.PLAIN, tune(0, 1), tune(0, 3, 1), 0, false);
        turns("3 LOST in WIND 1", Checks.PLAIN, tune(0, 1), tune(0, 3, 1), 1, true);
        turns("2 not in WIND 1", Checks.PLAIN, tune(0, 1), tune(0, 2, 1), 1, false);
        turns("2 LOST in WIND 2", Checks.PLAIN, tune(0, 1), tune(0, 2, 1), 2, true);
        turns("1 LOST in WIND 3", Checks.PLAIN, tune(0), tune(1, 2, 3, 0, 1), 3, true);
    }

    private static void ears() {
        says("EARS, each under the one told, say by what one TURNS:");
        Checks.taken("EAR", Checks::some, new int[] {0, 1, 2, 3, 4, 5}, (x, ear) -> x.one(ear, 4, 0, 0));
        Checks.bad("EAR", Checks::some, new int[] {-1, 6, Checks.MIN, Checks.MAX}, (x, ear) -> x.one(ear, 4, 0, 0));
        // At his own TUNE, where nothing is LOST, one of any EAR TURNS.
        for (int ear = 0; ear < 6; ear++) {
            for (int own : Checks.RIGHT_TUNES) {
                turns("at his own " + own, ear, own, own, 0, true);
            }
        }
    }

    private static void plain() {
        says("0 PLAIN: what comes is his TUNE, less its LOST NOTES.");
        int ear = Checks.PLAIN;
        turns("his TUNE", ear, tune(1, 2, 3), tune(1, 2, 3), 0, true);
        turns("one NOTE less", ear, tune(1, 2, 3), tune(1, 2), 0, false);
        turns("one NOTE more", ear, tune(1, 2, 3), tune(1, 2, 3, 0), 0, false);
        turns("another order", ear, tune(1, 2, 3), tune(2, 1, 3), 0, false);
        turns("2 for 1", ear, tune(1), tune(2), 0, false);
        turns("the LOST left out of his", ear, tune(1, 3, 2), tune(1, 2), 1, true);
        turns("not where they are not LOST", ear, tune(1, 3, 2), tune(1, 2), 0, false);
        turns("others LOST in each", ear, tune(2, 0, 1), tune(0, 2, 2, 1), 2, true);
        turns("all but one LOST", ear, tune(3, 2, 1, 0), tune(0), 3, true);
        turns("not twice for once", ear, tune(0, 0), tune(0), 3, false);
    }

    private static void lisp() {
        says("1 LISP (under PLAIN): so, where, LOST NOTES being left out, NOTE 2 is taken for NOTE 1, in both.");
        int ear = Checks.LISP;
        turns("2 whistled, 1 his", ear, tune(1, 0), tune(2, 0), 0, true);
        turns("1 whistled, 2 his", ear, tune(2, 0), tune(1, 0), 0, true);
        turns("in each NOTE", ear, tune(1, 2, 1, 2, 1), tune(2, 1, 2, 1, 2), 0, true);
        turns("3 for 2", ear, tune(2), tune(3), 0, false);
        turns("0 for 1", ear, tune(1), tune(0), 0, false);
        turns("3 for 1", ear, tune(1), tune(3), 0, false);
        turns("one NOTE more", ear, tune(1, 0), tune(2, 0, 0), 0, false);
        turns("2 and 1 in WIND 1", ear, tune(2, 3), tune(1), 1, true);
        turns("2 is LOST ahead of being taken for 1, his", ear, tune(2, 0), tune(1, 0), 2, false);
        turns("2 is LOST ahead of being taken for 1, what comes", ear, tune(1, 0), tune(2, 0), 2, false);
        turns("what 2 leaves", ear, tune(2, 0), tune(0), 2, true);
    }

    private static void half() {
        says("2 HALF (under PLAIN): what comes begins with the first half of his TUNE");
        int ear = Checks.HALF;
        turns("the half of four", ear, tune(1, 2, 3, 0), tune(1, 2), 0, true);
        turns("less than it", ear, tune(1, 2, 3, 0), tune(1), 0, false);
        turns("more than it", ear, tune(1, 2, 3, 0), tune(1, 2, 0), 0, true);
        turns("as many as can be", ear, tune(1, 2, 3, 0), tune(1, 2, 3, 3, 3), 0, true);
        turns("not at its beginning", ear, tune(1, 2, 3, 0), tune(0, 1, 2), 0, false);
        turns("the second half", ear, tune(1, 2, 3, 0), tune(3, 0), 0, false);
        turns("one NOTE of two", ear, tune(1, 2), tune(1, 3), 0, true);
        turns("no lisp", ear, tune(1, 2), tune(2, 2), 0, false);
        turns("what comes, less what is LOST, begins so", ear, tune(1, 2), tune(3, 1), 1, true);
        turns("what was whistled does not", ear, tune(1, 2), tune(3, 1), 0, false);
    }

    private static void middleOne() {
        says("(half its NOTES, a middle one too),");
        for (int ear : new int[] {Checks.HALF, Checks.DULL}) {
            turns("one of one", ear, tune(1), tune(1), 0, true);
            turns("not none of one", ear, tune(1), tune(2), 0, false);
            turns("two of three", ear, tune(1, 0, 3), tune(1, 0), 0, true);
            turns("not one of three", ear, tune(1, 0, 3), tune(1), 0, false);
            turns("not one of three and another", ear, tune(1, 0, 3), tune(1, 1), 0, false);
            turns("two of four", ear, tune(1, 2, 3, 0), tune(1, 2), 0, true);
            turns("three of five", ear, tune(1, 2, 3, 0, 0), tune(1, 2, 3), 0, true);
            turns("not two of five", ear, tune(1, 2, 3, 0, 0), tune(1, 2), 0, false);
        }
    }

    private static void halfLessLost() {
        says("less LOST ones.");
        int ear = Checks.HALF;
        turns("the half 1 3, 3 LOST", ear, tune(1, 3, 0, 0), tune(1), 1, true);
        turns("the half 1 3, 3 LOST, more", ear, tune(1, 3, 0, 0), tune(1, 2, 2), 1, true);
        turns("3 not LOST", ear, tune(1, 3, 0, 0), tune(1), 0, false);
        turns("halved ahead of what is LOST", ear, tune(3, 1, 0, 0), tune(1, 1), 1, true);
        turns("halved ahead of what is LOST, 1 0", ear, tune(0, 3, 3, 1), tune(0, 2), 1, true);
    }

    private static void bird() {
        says("3 BIRD (under LISP): as LISP, or what comes has as many NOTES as his TUNE, less its LOST ones, and just "
                + "the same last one.");
        int ear = Checks.BIRD;
        turns("as LISP", ear, tune(2, 1), tune(1, 2), 0, true);
        turns("as LISP, the last one too", ear, tune(0, 1), tune(0, 2), 0, true);
        turns("as many, the same last", ear, tune(0, 3), tune(1, 3), 0, true);
        turns("five, the same last", ear, tune(0, 0, 0, 0, 1), tune(3, 2, 3, 2, 1), 0, true);
        turns("as many, another last", ear, tune(0, 3), tune(0, 0), 0, false);
        turns("just the same: not 2 for 1", ear, tune(0, 1), tune(3, 2), 0, false);
        turns("just the same: not 1 for 2", ear, tune(0, 2), tune(3, 1), 0, false);
        turns("one more", ear, tune(0, 3), tune(0, 0, 3), 0, false);
        turns("one fewer", ear, tune(0, 3), tune(3), 0, false);
        turns("as many of those left", ear, tune(1, 3, 0), tune(0, 0), 1, true);
        turns("as many of those that come", ear, tune(1, 0), tune(3, 0, 3, 0), 1, true);
        turns("not as many where nothing is LOST", ear, tune(1, 3, 0), tune(0, 0), 0, false);
        turns("the last of those left", ear, tune(0, 1, 3), tune(1, 1), 1, true);
        turns("as many whistled, fewer come", ear, tune(0, 1), tune(3, 1), 1, false);
    }

    private static void blind() {
        says("4 BLIND (under PLAIN): what was whistled is his TUNE (he hears it as it was).");
        int ear = Checks.BLIND;
        for (int wind = 0; wind < 4; wind++) {
            turns("his TUNE in WIND " + wind, ear, tune(1, 3), tune(1, 3), wind, true);
            turns("what comes alike in WIND " + wind, ear, tune(0), tune(0, 3), wind, false);
            turns("what is left alike in WIND " + wind, ear, tune(0, 3), tune(0), wind, false);
        }
        turns("no lisp", ear, tune(1), tune(2), 0, false);
        turns("no half", ear, tune(1, 1), tune(1), 0, false);
        turns("no more than it", ear, tune(1), tune(1, 1), 0, false);
    }

    private static void dull() {
        says("5 DULL (under HALF): as HALF, but in a WIND above 1 he does not TURN.");
        int ear = Checks.DULL;
        turns("half, in WIND 0", ear, tune(0, 1, 2, 3), tune(0, 1), 0, true);
        turns("more than half, in WIND 0", ear, tune(0, 1, 2, 3), tune(0, 1, 1), 0, true);
        turns("less than half, in WIND 0", ear, tune(0, 1, 2, 3), tune(0), 0, false);
        turns("half, in WIND 1", ear, tune(0, 1, 2, 3), tune(0, 1), 1, true);
        turns("half less LOST ones, in WIND 1", ear, tune(0, 3, 1, 1), tune(0), 1, true);
        turns("in WIND 2", ear, tune(0), tune(0), 2, false);
        turns("in WIND 3", ear, tune(0), tune(0), 3, false);
        turns("a HALF one in WIND 2", Checks.HALF, tune(0), tune(0), 2, true);
        turns("a HALF one in WIND 3", Checks.HALF, tune(0), tune(0), 3, true);
    }

    private static void nothingComes() {
        says("(But BLIND ones, nobody TURNS, if nothing comes,");
        for (int ear = 0; ear < 6; ear++) {
            boolean blind = ear == Checks.BLIND;
            turns("his TUNE, all LOST by WIND 1", ear, tune(3), tune(3), 1, blind);
            turns("his TUNE, all LOST by WIND 2", ear, tune(2, 3), tune(2, 3), 2, blind);
            turns("his TUNE, all LOST by WIND 3", ear, tune(1, 2, 3, 1, 1), tune(1, 2, 3, 1, 1), 3, blind);
            turns("another TUNE, all LOST", ear, tune(3), tune(3, 3), 1, false);
            turns("another TUNE, all LOST, his not", ear, tune(0), tune(3), 1, false);
        }
    }

    private static void nothingLeftOfTheTune() {
        says("or nothing is left of his TUNE,");
        for (int ear = 0; ear < 6; ear++) {
            turns("his all LOST, what comes not, by WIND 1", ear, tune(3, 3), tune(0), 1, false);
            turns("his all LOST, what comes not, by WIND 3", ear, tune(1, 2, 3), tune(1, 0), 3, false);
            boolean wakes = ear != Checks.BLIND;
            turns("one NOTE left, in WIND 1", ear, tune(0, 3), tune(0, 3, 3), 1, wakes);
        }
    }

    private static void nothingLeftOfTheHalf() {
        says("or half.)");
        for (int ear : new int[] {Checks.HALF, Checks.DULL}) {
            turns("the half LOST: what is left of his TUNE", ear, tune(3, 0), tune(0), 1, false);
            turns("the half LOST: his TUNE", ear, tune(3, 0), tune(3, 0), 1, false);
            turns("the half LOST: another", ear, tune(3, 0), tune(1, 2), 1, false);
            turns("the half with its middle one LOST", ear, tune(3, 3, 0), tune(0), 1, false);
            turns("the middle one left", ear, tune(3, 0, 0), tune(0), 1, true);
        }
        // Who TURNS by his whole TUNE does so, whatever is left of its half (the shared run's bride asks for it).
        for (int ear : new int[] {Checks.PLAIN, Checks.LISP, Checks.BIRD}) {
            turns("whose half does not matter", ear, tune(3, 0), tune(0), 1, true);
        }
    }

    // ---- calls

    private static void call() {
        says("CALL of a TUNE from a PLACE in a WIND: those at PLACES that hear it who TURN (bits).");
        is("nobody there", Checks.empty().call(0, 4, 0), 0);
        WhistledNames x = new WhistledNames();
        for (int i = 0; i < 7; i++) {
            x.one(i % 6, tune(0), i % 6, 0);
        }
        is("who is at the PLACE", x.call(1, tune(0), 0), 2);
        is("two at one PLACE", x.call(0, tune(0), 0), 65);
        for (int place = 1; place < 6; place++) {
            x.hears(0, place, 3);
        }
        is("all seven", x.call(0, tune(0), 0), 127);
        is("all but the DULL one in WIND 2", x.call(0, tune(0), 2), 95);
        is("where the PLACE is heard", x.call(4, tune(0), 3), 1 + 16 + 64);
        x.hears(0, 4, 1);
        is("a BLIND one, too, must hear it", x.call(0, tune(0), 2), 79);
        is("nobody TURNS", x.call(0, tune(3, 3), 0), 0);
        long digest = x.digest();
        x.call(0, tune(0), 0);
        is("it is not told", x.digest(), digest);
    }
}
