/** "Terms", its second part, sentence by sentence: TAKEN to THE DEAD. */
final class TermsOfTunesTests {
    private static final int PLAIN = Checks.PLAIN, LISP = Checks.LISP, HALF = Checks.HALF, BLIND = Checks.BLIND,
            DULL = Checks.DULL;

    private TermsOfTunesTests() {
    }

    static void run() {
        takenWhereBothHear();
        takenIfHeTurns();
        clashPairs();
        clashHowMany();
        alterFewest();
        alterLeast();
        alterEachPair();
        namesOfFewNotes();
        namesInPlace();
        namesWithoutClash();
        namesOfKin();
        namesFewest();
        namesFirst();
        namesNone();
        namesUpToFive();
        brideLeast();
        brideLikeHers();
        brideAlone();
        thiefFewest();
        thiefNobodyElse();
        thiefNone();
        whistled();
        wordByTunes();
        wordJustHe();
        wordFewest();
        wordLast();
        wordNone();
        theDead();
        years();
        freeAfterNine();
        freeFewestNotes();
        freeLeastNumber();
        freeOfTheDead();
        freeAlone();
    }

    private static void says(String sentence) {
        Checks.says("Terms", sentence);
    }

    private static void is(String what, long got, long due) {
        Checks.is(what, got, due);
    }

    private static int tune(int... notes) {
        return Checks.tune(notes);
    }

    /** What names(NONE), then names(0), (1), .. answer. */
    private static void names(String what, WhistledNames x, int all, int... each) {
        is(what + ": NOTES in all", x.names(-1), all);
        for (int i = 0; i < each.length; i++) {
            is(what + ": PERSON " + i, x.names(i), each[i]);
        }
    }

    // ---- taken, clash, alter

    private static void takenWhereBothHear() {
        says("======== 2 TAKEN: a TUNE of a is taken for b's, if there is a PLACE and a WIND, a CALL of it from there in "
                + "that WIND is heard where a is and where b is,");
        is("two at one PLACE", Checks.together(PLAIN, 4, 4).taken(0, 1), 1);
        WhistledNames x = new WhistledNames();
        x.one(PLAIN, tune(0, 3), 0, 0);
        x.one(PLAIN, tune(0), 1, 0);
        is("one PLACE not heard from the other", x.taken(0, 1), 0);
        x.hears(0, 1, 0);
        is("alike from WIND 1 on, heard in WIND 0", x.taken(0, 1), 0);
        x.hears(0, 1, 1);
        is("heard in WIND 1", x.taken(0, 1), 1);
        x.hears(0, 1, -1);
        x.hears(5, 0, 3);
        is("a third PLACE, heard where a is alone", x.taken(0, 1), 0);
        x.hears(5, 1, 0);
        is("the third PLACE, heard where b is in WIND 0", x.taken(0, 1), 0);
        x.hears(5, 1, 1);
        is("the third PLACE, heard where b is in WIND 1", x.taken(0, 1), 1);
        x.hears(5, 0, -1);
        is("the third PLACE, heard where b is alone", x.taken(0, 1), 0);
        x.hears(5, 0, 0);
        is("the third PLACE, heard where a is in WIND 0", x.taken(0, 1), 0);
        x.rename(0, tune(0));
        is("in WIND 0, the least", x.taken(0, 1), 1);
        WhistledNames late = Checks.together(PLAIN, tune(0, 1), tune(0));
        is("alike in WIND 3 alone, the greatest", late.taken(0, 1), 1);
        late.move(1, 1);
        late.hears(0, 1, 2);
        is("not heard in WIND 3", late.taken(0, 1), 0);
    }

    private static void takenIfHeTurns() {
        says("and b TURNS.");
        WhistledNames x = new WhistledNames();
        x.one(PLAIN, tune(1, 0), 0, 0);
        x.one(HALF, tune(1, 3, 3, 3), 0, 0);
        is("nothing but the half", x.taken(0, 1), 1);
        is("a PLAIN one TURNS at no half", x.taken(1, 0), 0);
        WhistledNames dull = new WhistledNames();
        dull.one(DULL, tune(0, 2), 0, 0);
        dull.one(PLAIN, tune(0), 0, 0);
        is("a himself does not TURN in WIND 2", dull.taken(0, 1), 1);
        WhistledNames blind = new WhistledNames();
        blind.one(PLAIN, tune(3), 0, 0);
        blind.one(BLIND, tune(3), 0, 0);
        blind.one(BLIND, tune(2), 0, 0);
        is("a BLIND one's", blind.taken(0, 1), 1);
        is("another BLIND one's", blind.taken(0, 2), 0);
    }

    private static void clashPairs() {
        says("CLASH: pairs (a below b) by which one's is taken for the other one's:");
        WhistledNames x = new WhistledNames();
        x.one(PLAIN, tune(1, 0), 0, 0);
        x.one(HALF, tune(1, 3, 3, 3), 0, 0);
        is("a's for b's alone", x.clash(0), 1);
        WhistledNames y = new WhistledNames();
        y.one(HALF, tune(1, 3, 3, 3), 0, 0);
        y.one(PLAIN, tune(1, 0), 0, 0);
        is("b's for a's alone", y.clash(0), 1);
        is("that pair", y.clash(1), 1);
        is("each for the other's: one pair", Checks.together(PLAIN, 4, 4).clash(0), 1);
        is("neither", Checks.together(PLAIN, 4, 5).clash(0), 0);
        WhistledNames z = Checks.together(PLAIN, 4, 4, 5);
        is("two", z.clash(1), 1);
        z.rename(1, 5);
        is("two others, when one has another TUNE", z.clash(1), 12);
        z.move(2, 1);
        is("none, when one has gone", z.clash(0), 0);
    }

    private static void clashHowMany() {
        says("how many, the first (10 a and b).");
        is("nobody there", Checks.empty().clash(0), 0);
        is("one alone", Checks.together(PLAIN, 4).clash(0), 0);
        WhistledNames seven = Checks.together(PLAIN, 4, 4, 4, 4, 4, 4, 4);
        is("all there can be", seven.clash(0), 21);
        is("the first of all", seven.clash(1), 1);
        WhistledNames last = Checks.together(PLAIN, 4, 5, 6, 7, 16, 31, 31);
        is("the last there can be: how many", last.clash(0), 1);
        is("the last there can be", last.clash(1), 56);
        WhistledNames two = Checks.together(PLAIN, 4, 5, 5, 6, 7, 16, 4);
        is("two: how many", two.clash(0), 2);
        is("by a ahead of by b", two.clash(1), 6);
        WhistledNames same = Checks.together(PLAIN, 4, 5, 6, 6, 7, 6);
        is("three: how many", same.clash(0), 3);
        is("of one a, the least b", same.clash(1), 23);
    }

    private static void alterFewest() {
        says("ALTER: the fewest PEOPLE");
        is("nobody there", Checks.empty().alter(), 0);
        is("one alone", Checks.together(PLAIN, 4).alter(), 0);
        is("no pair", Checks.together(PLAIN, 4, 5, 6, 7).alter(), 0);
        // All TUNES begin with the half of the last one's: he alone is in each pair, though 7 is less than 8.
        WhistledNames star = Checks.together(PLAIN, tune(1, 0), tune(1, 0, 0), tune(1, 0, 0, 0));
        star.one(HALF, tune(1, 1), 0, 0);
        is("three pairs", star.clash(0), 3);
        is("he who is in each", star.alter(), 8);
        is("all alike but one", Checks.together(PLAIN, 4, 4, 4, 4, 4, 4, 4).alter(), 63);
    }

    private static void alterLeast() {
        says("(bits, least of like ones)");
        is("one of two", Checks.together(PLAIN, 4, 4).alter(), 1);
        is("one of the last two", Checks.together(PLAIN, 5, 6, 7, 16, 31, 4, 4).alter(), 32);
        is("one of each of two pairs", Checks.together(PLAIN, 4, 5, 5, 4).alter(), 3);
        is("two of three", Checks.together(PLAIN, 7, 4, 4, 4).alter(), 6);
    }

    private static void alterEachPair() {
        says("of whom one at least is in each pair.");
        is("three pairs", Checks.together(PLAIN, 4, 5, 6, 4, 5, 6).alter(), 7);
        is("three of one TUNE, two of another", Checks.together(PLAIN, 4, 5, 4, 5, 4).alter(), 7);
        WhistledNames x = new WhistledNames();
        x.one(PLAIN, tune(1, 0), 0, 0);
        x.one(HALF, tune(1, 3, 3, 3), 0, 0);
        x.one(PLAIN, tune(1, 0, 0), 0, 0);
        is("a pair by which one's alone is taken", x.alter(), 2);
    }

    // ---- tunes for all

    private static void namesOfFewNotes() {
        says("NAMES: TUNES for all, of 1 or 2 NOTES");
        names("one", Checks.together(PLAIN, 2047), 1, 4);
        WhistledNames kin = new WhistledNames();
        kin.one(PLAIN, 4, 0, 2);
        kin.one(PLAIN, 4, 0, 2);
        names("two of one KIN, one of 2 NOTES", kin, 3, 4, 16);
        // Of 2 NOTES the half is the first one, which is the same for one KIN.
        WhistledNames halves = new WhistledNames();
        halves.one(HALF, tune(3, 0, 0), 0, 2);
        halves.one(HALF, tune(3, 1, 1), 0, 2);
        is("3 NOTES would do", halves.clash(0), 0);
        names("but 3 are too many", halves, -1, -1, -1);
    }

    private static void namesInPlace() {
        says("(in place of those they have),");
        names("those they have do not matter", Checks.together(PLAIN, 4, 4), 2, 4, 5);
        names("nor do these", Checks.together(PLAIN, 5, 2047), 2, 4, 5);
        WhistledNames x = Checks.together(PLAIN, 31, 64);
        long digest = x.digest();
        x.names(-1);
        x.names(1);
        is("they keep those they have", x.digest(), digest);
    }

    private static void namesWithoutClash() {
        says("by which there is no CLASH,");
        names("four PLAIN ones", Checks.together(PLAIN, 4, 4, 4, 4), 4, 4, 5, 6, 7);
        names("four LISP ones: 2 is taken for 1", Checks.together(LISP, 4, 4, 4, 4), 5, 4, 5, 7, 16);
        WhistledNames apart = new WhistledNames();
        apart.one(LISP, 7, 0, 0);
        apart.one(LISP, 7, 1, 1);
        names("two who hear no PLACE both", apart, 2, 4, 4);
        apart.hears(1, 2, 0);
        apart.hears(0, 2, 0);
        names("who hear a third one", apart, 2, 4, 5);
        WhistledNames second = new WhistledNames();
        second.one(PLAIN, 7, 0, 0);
        second.one(LISP, 7, 0, 1);
        second.one(PLAIN, 7, 0, 2);
        second.one(PLAIN, 7, 0, 3);
        // The LISP one may not have 1 while another has 2, nor 2 while another has 1.
        names("one LISP one", second, 4, 4, 7, 5, 6);
        WhistledNames last = new WhistledNames();
        last.one(PLAIN, 7, 0, 0);
        last.one(PLAIN, 7, 0, 1);
        last.one(LISP, 7, 0, 2);
        names("one LISP one, the last", last, 3, 4, 5, 7);
    }

    private static void namesOfKin() {
        says("and all of one KIN begin with the same NOTE:");
        for (int kin = 0; kin < 4; kin++) {
            WhistledNames x = new WhistledNames();
            x.one(PLAIN, 4, 0, kin);
            x.one(PLAIN, 4, 0, kin);
            names("two of KIN " + kin + " at one PLACE", x, 3, 4, 16);
        }
        names("two not of one KIN", Checks.together(PLAIN, 4, 4), 2, 4, 5);
        WhistledNames far = new WhistledNames();
        far.one(PLAIN, 4, 0, 1);
        far.one(PLAIN, 4, 0, 2);
        far.one(PLAIN, 4, 1, 2);
        names("as the one of his KIN who is not heard", far, 3, 4, 5, 5);
        WhistledNames first = new WhistledNames();
        first.one(PLAIN, 4, 1, 2);
        first.one(PLAIN, 4, 0, 1);
        first.one(PLAIN, 4, 0, 2);
        names("as the one of his KIN ahead of him", first, 3, 4, 5, 4);
    }

    private static void namesFewest() {
        says("the fewest NOTES in all;");
        is("nobody there", Checks.empty().names(-1), 0);
        WhistledNames lisping = new WhistledNames();
        for (int i = 0; i < 4; i++) {
            lisping.one(i == 1 ? LISP : PLAIN, 4, 0, i);
        }
        // 0, 1, 3, 0 0 would come first, but has 5 NOTES.
        names("the second one has no lesser number", lisping, 4, 4, 7, 5, 6);
        // With 0 for the first of three of a KIN, 0 1 would be 0 in WIND 3, as his is.
        WhistledNames kin = new WhistledNames();
        for (int i = 0; i < 3; i++) {
            kin.one(PLAIN, 4, 0, 2);
        }
        names("three of one KIN", kin, 5, tune(1), tune(1, 0), tune(1, 1));
        WhistledNames all = new WhistledNames();
        for (int i = 0; i < 5; i++) {
            all.one(PLAIN, 4, 0, 3);
        }
        names("five of one KIN", all, 9, tune(3), tune(3, 0), tune(3, 1), tune(3, 2), tune(3, 3));
    }

    private static void namesFirst() {
        says("of like ones the first (PERSON 0's least number, then 1's, ..).");
        names("three", Checks.together(PLAIN, 7, 7, 7), 3, 4, 5, 6);
        WhistledNames x = new WhistledNames();
        x.one(PLAIN, 4, 0, 2);
        x.one(PLAIN, 4, 0, 1);
        x.one(PLAIN, 4, 0, 2);
        // 0, 1, 0 0 ahead of 0 0, 1, 0; of 4 NOTES each.
        names("the one of 2 NOTES is the later one", x, 4, 4, 5, 16);
        names("five", Checks.together(PLAIN, 7, 7, 7, 7, 7), 6, 4, 5, 6, 7, 16);
    }

    private static void namesNone() {
        says("None: there are none.");
        WhistledNames x = new WhistledNames();
        x.one(HALF, 4, 0, 2);
        x.one(HALF, 4, 0, 2);
        names("two HALF ones of one KIN", x, -1, -1, -1);
        is("none is no refusal", Checks.refusedSoFar(x), 0);
        x.move(1, 1);
        names("apart there are some", x, 2, 4, 4);
    }

    private static void namesUpToFive() {
        says("(Up to 5 PEOPLE; more: NO.)");
        is("5", Checks.withPeople(5).names(-1) > 0 ? 1 : 0, 1);
        is("5, the last one's", Checks.withPeople(5).names(4) > 0 ? 1 : 0, 1);
        Checks.refused("6", () -> Checks.withPeople(6), Checks.NO, -20, x -> x.names(-1));
        Checks.refused("6, the first one's", () -> Checks.withPeople(6), Checks.NO, -20, x -> x.names(0));
        Checks.refused("7", Checks::all, Checks.NO, -20, x -> x.names(-1));
        Checks.refused("7, the last one's", Checks::all, Checks.NO, -20, x -> x.names(6));
    }

    // ---- bride, thief

    private static void brideLeast() {
        says("BRIDE: the least TUNE for one,");
        is("alone", Checks.together(PLAIN, tune(2, 3, 3)).bride(0), tune(2, 0, 0));
        is("hers already", Checks.together(PLAIN, tune(2, 0, 0)).bride(0), tune(2, 0, 0));
        WhistledNames x = Checks.together(PLAIN, tune(1, 3), tune(1, 0));
        is("the next one", x.bride(0), tune(1, 1));
        is("she keeps it till she is renamed", x.rename(0, tune(1, 3)), tune(1, 3));
        is("the other one's own is free to him", x.bride(1), tune(1, 0));
    }

    private static void brideLikeHers() {
        says("of as many NOTES as hers, with the same first NOTE,");
        for (int note = 0; note < 4; note++) {
            is("1 NOTE, " + note, Checks.together(PLAIN, 4 + note).bride(0), 4 + note);
            is("2 NOTES, " + note, Checks.together(PLAIN, tune(note, 3)).bride(0), tune(note, 0));
            int five = Checks.together(PLAIN, tune(note, 3, 2, 1, 3)).bride(0);
            is("5 NOTES, " + note, five, tune(note, 0, 0, 0, 0));
        }
        is("1 NOTE, another's: no second NOTE", Checks.together(PLAIN, 5, 5).bride(0), -1);
    }

    private static void brideAlone() {
        says("by which nobody's is taken for hers, hers for nobody's; none.");
        WhistledNames his = Checks.together(PLAIN, tune(0, 3));
        his.one(HALF, tune(0, 0, 3, 3), 0, 0);
        // 0 0 begins with his half, 0 0; 0 1 is 0 in WIND 3, his half 0 0 there.
        is("hers for his", his.bride(0), tune(0, 1));
        WhistledNames hers = new WhistledNames();
        hers.one(HALF, tune(1, 0, 3), 0, 0);
        hers.one(PLAIN, tune(1, 0, 3, 3, 3), 0, 0);
        // With her half 1 0 his begins; 1 1 0 is 0 in WIND 3, as his is.
        is("his for hers", hers.bride(0), tune(1, 1, 1));
        hers.rename(1, tune(1));
        is("no part of her half", hers.bride(0), tune(1, 0, 0));
        WhistledNames none = new WhistledNames();
        none.one(HALF, tune(1, 2), 0, 0);
        none.one(PLAIN, tune(1, 1, 1, 1), 0, 0);
        is("none", none.bride(0), -1);
        is("none is no refusal", Checks.refusedSoFar(none), 0);
        none.move(1, 1);
        is("where he is not heard", none.bride(0), tune(1, 0));
    }

    private static void thiefFewest() {
        says("THIEF at a PLACE in a WIND: the fewest NOTES of the beginning of one's TUNE by a CALL of which he TURNS,");
        is("1, the fewest there can be", Checks.withOne(HALF, tune(1, 2)).thief(0, 0, 0), 1);
        is("1 of 1", Checks.withOne(PLAIN, 4).thief(0, 3, 0), 1);
        is("3 of 5", Checks.withOne(HALF, tune(1, 2, 3, 0, 0)).thief(0, 0, 0), 3);
        is("5, the most there can be", Checks.withOne(PLAIN, tune(1, 2, 3, 0, 2)).thief(0, 0, 0), 5);
        is("fewer, where the last are LOST", Checks.withOne(PLAIN, tune(1, 0, 3, 2, 3)).thief(0, 2, 0), 2);
        is("5 for a BLIND one", Checks.withOne(BLIND, tune(1, 0, 3, 2, 3)).thief(0, 2, 0), 5);
        WhistledNames x = Checks.withOne(PLAIN, tune(0, 1));
        x.hears(0, 5, 2);
        is("at another PLACE", x.thief(5, 2, 0), 2);
        is("in more WIND than is heard", x.thief(5, 3, 0), -1);
    }

    private static void thiefNobodyElse() {
        says("and nobody else;");
        WhistledNames x = new WhistledNames();
        x.one(HALF, tune(1, 2, 3, 0), 0, 0);
        x.one(PLAIN, tune(1, 2), 0, 0);
        is("another one TURNS at the half", x.thief(0, 0, 0), 3);
        is("who is never alone", x.thief(0, 0, 1), -1);
        x.move(1, 1);
        is("the other one is away", x.thief(0, 0, 0), 2);
        x.hears(0, 1, 0);
        is("the other one hears it", x.thief(0, 0, 0), 3);
        is("at his PLACE", x.thief(1, 0, 0), 3);
    }

    private static void thiefNone() {
        says("none.");
        is("nothing left", Checks.withOne(PLAIN, tune(3)).thief(0, 1, 0), -1);
        is("the PLACE is not heard", Checks.withOne(PLAIN, 4).thief(1, 0, 0), -1);
        is("two alike", Checks.together(PLAIN, tune(0, 1), tune(0, 1)).thief(0, 0, 1), -1);
        WhistledNames dull = Checks.withOne(DULL, 4);
        is("a DULL one in WIND 1", dull.thief(0, 1, 0), 1);
        is("a DULL one in WIND 2", dull.thief(0, 2, 0), -1);
        is("none is no refusal", Checks.refusedSoFar(dull), 0);
    }

    // ---- what was whistled, word sent on

    private static void whistled() {
        says("WHISTLED from a PLACE in a WIND: of all TUNES those by a CALL of which just told PEOPLE (bits) TURN: how "
                + "many, the least number.");
        is("nobody there, nobody TURNS: all TUNES", Checks.empty().whistled(0, 0, 0, 0), 1364);
        is("the least of all", Checks.empty().whistled(5, 3, 0, 1), 4);
        WhistledNames x = Checks.withOne(PLAIN, 2047);
        is("one TUNE", x.whistled(0, 0, 1, 0), 1);
        is("the greatest of all", x.whistled(0, 0, 1, 1), 2047);
        is("all others", x.whistled(0, 0, 0, 0), 1363);
        is("all LOST", x.whistled(0, 1, 1, 0), 0);
        is("not heard", x.whistled(1, 0, 1, 0), 0);
        x.one(HALF, tune(3, 3, 0), 0, 0);
        // 3 3, and with up to three NOTES more: 1 + 4 + 16 + 64 and the first one's.
        is("just the second one", x.whistled(0, 0, 2, 0), 84);
        is("the least of these", x.whistled(0, 0, 2, 1), tune(3, 3));
        is("just both", x.whistled(0, 0, 3, 0), 1);
        is("just the first one", x.whistled(0, 0, 1, 0), 0);
        // What is left in WIND 3 is 0: of 1 to 5 NOTES, one of them 0 and the others not: 1 + 6 + 27 + 108 + 405.
        is("in WIND 3", Checks.withOne(PLAIN, 4).whistled(0, 3, 1, 0), 547);
        WhistledNames seven = Checks.together(PLAIN, 4, 4, 4, 4, 4, 4, 4);
        is("just all seven", seven.whistled(0, 0, 127, 0), 1);
        is("none of seven", seven.whistled(0, 0, 0, 1), 5);
        is("all seven but one", seven.whistled(0, 0, 126, 0), 0);
    }

    private static void wordByTunes() {
        says("WORD from one to another one in a WIND: who has it calls another one by that one's TUNE (it takes as many "
                + "NOTES),");
        WhistledNames x = Checks.together(PLAIN, tune(0, 0), tune(1), tune(1, 1, 1, 1, 1));
        is("1 NOTE, the fewest there can be", x.word(0, 1, 0, 0), 1);
        is("5 NOTES, the most of one", x.word(0, 2, 0, 0), 5);
        is("by the TUNE of the one called", x.word(1, 0, 0, 0), 2);
        is("in WIND 3, of which nothing is left", x.word(0, 1, 3, 0), -1);
        is("in WIND 3, as many NOTES as his TUNE has", x.word(1, 0, 3, 0), 2);
        WhistledNames far = new WhistledNames();
        far.one(PLAIN, tune(0), 0, 0);
        far.one(PLAIN, tune(1), 1, 0);
        far.hears(0, 1, 2);
        is("from the PLACE of who calls, in WIND 2", far.word(1, 0, 2, 0), 1);
        is("in more WIND than is heard", far.word(1, 0, 3, 0), -1);
    }

    private static void wordJustHe() {
        says("who has it then, if, but for who calls, just he TURNS:");
        WhistledNames x = new WhistledNames();
        x.one(PLAIN, tune(1), 0, 0);
        x.one(LISP, tune(2), 0, 0);
        is("who calls TURNS, too", x.word(1, 0, 0, 0), 1);
        x.one(LISP, tune(1, 1), 0, 0);
        is("a third one TURNS, too: by way of him", x.word(2, 0, 0, 0), 2);
        is("the third one calls last", x.word(2, 0, 0, 1), 1);
        x.rename(2, tune(1));
        is("who calls TURNS, too, and so does another", x.word(2, 0, 0, 0), -1);
        WhistledNames deaf = Checks.together(PLAIN, tune(0), tune(3));
        is("he TURNS in WIND 0", deaf.word(0, 1, 0, 0), 1);
        is("he does not TURN himself", deaf.word(0, 1, 1, 0), -1);
    }

    private static void wordFewest() {
        says("the fewest NOTES in all until the other one has it;");
        WhistledNames x = new WhistledNames();
        for (int i = 0; i < 6; i++) {
            x.one(i == 3 ? HALF : PLAIN, i == 3 ? tune(3, 3, 3, 0, 0) : tune(1, 0, 0, 0, 0) + i, i, 0);
        }
        x.one(PLAIN, 2047, 5, 0);
        for (int place = 1; place < 6; place++) {
            x.hears(place - 1, place, 0);
        }
        // Who is at PLACE 4 wakes the HALF one at PLACE 3, too, if he calls the last one.
        is("from the first to the last by all seven, the most there can be", x.word(0, 6, 0, 0), 30);
        is("back", x.word(6, 0, 0, 0), 25);
        x.hears(0, 5, 0);
        is("at once", x.word(0, 6, 0, 0), 5);
        WhistledNames way = new WhistledNames();
        way.one(PLAIN, tune(1), 0, 0);
        way.one(PLAIN, tune(3, 3, 3), 1, 0);
        way.one(PLAIN, tune(2, 0), 2, 0);
        way.one(PLAIN, tune(2), 3, 0);
        way.one(PLAIN, tune(0), 4, 0);
        way.hears(0, 1, 0);
        way.hears(1, 4, 0);
        way.hears(0, 2, 0);
        way.hears(2, 3, 0);
        way.hears(3, 4, 0);
        is("two calls and three of as many NOTES", way.word(0, 4, 0, 0), 4);
        way.rename(1, tune(3, 3, 3, 3));
        is("three calls of fewer NOTES than two", way.word(0, 4, 0, 0), 4);
        is("who calls last of the three", way.word(0, 4, 0, 1), 3);
        way.rename(2, tune(2, 0, 0, 0));
        is("two calls of fewer NOTES than three", way.word(0, 4, 0, 0), 5);
        is("who calls last of the two", way.word(0, 4, 0, 1), 1);
    }

    private static void wordLast() {
        says("who calls last of all (the least by whom it takes no more);");
        WhistledNames x = Checks.together(PLAIN, tune(0), tune(1));
        is("who has it at first", x.word(0, 1, 0, 1), 0);
        is("the other way", x.word(1, 0, 0, 1), 1);
        WhistledNames two = new WhistledNames();
        two.one(PLAIN, tune(0, 1), 2, 0);
        two.one(PLAIN, tune(1), 1, 0);
        two.one(PLAIN, tune(2), 1, 0);
        two.one(PLAIN, tune(3), 0, 0);
        two.hears(0, 1, 0);
        two.hears(1, 2, 0);
        is("by one of two", two.word(3, 0, 0, 0), 3);
        is("the least of two", two.word(3, 0, 0, 1), 1);
        two.rename(1, tune(1, 1));
        is("by whom it takes more is not", two.word(3, 0, 0, 1), 2);
        WhistledNames away = new WhistledNames();
        away.one(PLAIN, tune(0), 3, 0);
        away.one(PLAIN, tune(1), 1, 0);
        away.one(PLAIN, tune(2), 2, 0);
        away.one(PLAIN, tune(3), 0, 0);
        away.hears(0, 3, 0);
        away.hears(0, 1, 0);
        away.hears(1, 2, 0);
        is("a lesser one has it as soon, but is not heard", away.word(3, 2, 0, 1), 1);
        WhistledNames seven = Checks.together(PLAIN, 4, 5, 6, 7, 16, 21, 26);
        is("the last of seven", seven.word(6, 0, 0, 1), 6);
    }

    private static void wordNone() {
        says("none.");
        WhistledNames x = new WhistledNames();
        x.one(PLAIN, 4, 0, 0);
        x.one(PLAIN, 5, 1, 0);
        is("not heard: NOTES", x.word(0, 1, 0, 0), -1);
        is("not heard: who", x.word(0, 1, 0, 1), -1);
        is("none is no refusal", Checks.refusedSoFar(x), 0);
        is("all alike", Checks.together(PLAIN, 4, 4, 4).word(0, 2, 0, 0), -1);
        is("two alike: who calls does not count", Checks.together(PLAIN, 4, 4).word(0, 1, 0, 0), 1);
    }

    // ---- tunes of the dead

    private static void theDead() {
        says("THE DEAD: TUNES 0 .. 5, as they come,");
        WhistledNames x = Checks.empty();
        for (int i = 0; i < 6; i++) {
            is("which comes after " + i, x.dead(Checks.RIGHT_TUNES[i], i), i);
            is("then there are", x.count(1), i + 1);
        }
        Checks.refused("a seventh", Checks::all, Checks.FULL, -4, y -> y.dead(4, 0));
        is("the first of all may be the least", freeOf(new int[][] {{4, 0}, {5, 0}}, 99), 4);
        is("so may the last", freeOf(new int[][] {{64, 0}, {31, 0}, {16, 0}, {7, 0}, {6, 0}, {5, 0}}, 99), 5);
    }

    private static void years() {
        says("each with a YEAR (0 .. 99):");
        Checks.taken("dead, YEAR", Checks::some, new int[] {0, 1, 50, 98, 99}, (x, year) -> x.dead(4, year));
        Checks.bad("dead, YEAR", Checks::some, new int[] {-1, 100, Checks.MIN, Checks.MAX},
                (x, year) -> x.dead(4, year));
        Checks.taken("free, YEAR", Checks::some, new int[] {0, 1, 50, 98, 99}, (x, year) -> x.free(0, year));
        Checks.bad("free, YEAR", Checks::some, new int[] {-1, 100, Checks.MIN, Checks.MAX},
                (x, year) -> x.free(0, year));
        is("each its own: the one of YEAR 0", freeOf(new int[][] {{4, 50}, {5, 0}}, 58), 5);
        is("each its own: both", freeOf(new int[][] {{4, 50}, {5, 0}}, 59), 4);
    }

    private static void freeAfterNine() {
        says("FREE in a YEAR that is 9 later or more.");
        int[] years = {0, 1, 45, 89, 90};
        for (int year : years) {
            int[][] dead = {{5, year}};
            is("of YEAR " + year + ", 9 later", freeOf(dead, year + 9), 5);
            is("of YEAR " + year + ", 8 later", freeOf(dead, year + 8), -1);
            is("of YEAR " + year + ", as it died", freeOf(dead, year), -1);
            is("of YEAR " + year + ", in YEAR 99", freeOf(dead, 99), 5);
        }
        is("of YEAR 91, 8 later", freeOf(new int[][] {{5, 91}}, 99), -1);
        is("of YEAR 99, in the same", freeOf(new int[][] {{5, 99}}, 99), -1);
        is("of YEAR 99, ahead of it", freeOf(new int[][] {{5, 99}}, 0), -1);
    }

    private static void freeFewestNotes() {
        says("LEAST FREE: the TUNE of the fewest NOTES");
        is("1 of 1, 2, 5", freeOf(new int[][] {{1024, 0}, {7, 0}, {16, 0}}, 99), 7);
        is("4 of 5 and 4", freeOf(new int[][] {{1024, 0}, {511, 0}}, 99), 511);
        is("5 alone", freeOf(new int[][] {{2047, 0}}, 99), 2047);
        is("the fewest are not FREE", freeOf(new int[][] {{7, 95}, {64, 0}, {31, 90}}, 99), 31);
    }

    private static void freeLeastNumber() {
        says("(the least number of like ones), as a number,");
        is("of the first and the last", freeOf(new int[][] {{7, 0}, {6, 0}, {4, 0}, {5, 0}}, 99), 4);
        is("of five NOTES", freeOf(new int[][] {{2047, 0}, {1025, 0}, {1026, 0}}, 99), 1025);
        is("as a number, not which of THE DEAD", freeOf(new int[][] {{31, 0}}, 9), 31);
    }

    private static void freeOfTheDead() {
        says("that is one of THE DEAD's, FREE in a YEAR,");
        is("none of THE DEAD", freeOf(new int[][] {}, 99), -1);
        WhistledNames x = Checks.withOne(PLAIN, 2047);
        x.dead(5, 50);
        is("none is FREE", x.free(0, 58), -1);
        is("one is", x.free(0, 59), 5);
        is("none is no refusal", Checks.refusedSoFar(x), 0);
        is("it is still one of THE DEAD's", x.count(1), 1);
        is("he keeps his own", x.rename(0, 2047), 2047);
    }

    private static void freeAlone() {
        says("by which, were it one's, nobody's is taken for his, his for nobody's; none.");
        WhistledNames x = Checks.together(PLAIN, 31, 5);
        x.dead(5, 0);
        is("another one's", x.free(0, 9), -1);
        is("his own", x.free(1, 9), 5);
        x.dead(6, 0);
        is("the next one", x.free(0, 9), 6);
        WhistledNames his = new WhistledNames();
        his.one(PLAIN, 31, 0, 0);
        his.one(LISP, 5, 0, 0);
        his.dead(6, 0);
        is("his for another's", his.free(0, 9), -1);
        WhistledNames other = new WhistledNames();
        other.one(LISP, 31, 0, 0);
        other.one(PLAIN, 5, 0, 0);
        other.dead(6, 0);
        is("another's for his", other.free(0, 9), -1);
        other.move(0, 1);
        is("where the other one is not heard", other.free(0, 9), 6);
    }

    /** LEAST FREE for one who is alone, of THE DEAD told as TUNE and YEAR. */
    private static int freeOf(int[][] dead, int year) {
        WhistledNames x = Checks.withOne(PLAIN, 2047);
        for (int[] one : dead) {
            x.dead(one[0], one[1]);
        }
        return x.free(0, year);
    }
}
