import java.lang.reflect.Field;
import java.lang.reflect.Method;
import java.lang.reflect.Modifier;
import java.util.ArrayList;
import java.util.List;

/** What the document says ahead of "Terms": what it is, in short, for how many calls, and the public face. */
final class WhatItIsTests {
    private static final int PLAIN = Checks.PLAIN, LISP = Checks.LISP, HALF = Checks.HALF, BIRD = Checks.BIRD,
            BLIND = Checks.BLIND, DULL = Checks.DULL;
    private static final int CALLS = 512;

    private WhatItIsTests() {
    }

    static void run() {
        gorges();
        people();
        earsOverOneAnother();
        earsOfKinds();
        turning();
        takenForOneAnother();
        shortestTunes();
        bride();
        thief();
        whatWasWhistled();
        word();
        dead();
        text();
        imagesAndRefusals();
        notes();
        allItsCalls();
        face();
    }

    private static void says(String sentence) {
        Checks.says("What it is", sentence);
    }

    private static void is(String what, long got, long due) {
        Checks.is(what, got, due);
    }

    private static int tune(int... notes) {
        return Checks.tune(notes);
    }

    // ---- in short

    private static void gorges() {
        says("Whistled by name: places in gorges, heard from one another as the wind is,");
        WhistledNames x = Checks.withOne(PLAIN, tune(0));
        x.hears(0, 4, 1);
        is("from his own place in the greatest wind", x.call(0, tune(0), 3), 1);
        is("from the other place in a wind by which it is heard", x.call(4, tune(0), 1), 1);
        is("from the other place in a wind by which it is not", x.call(4, tune(0), 2), 0);
        is("from a third place", x.call(3, tune(0), 0), 0);
    }

    private static void people() {
        says("people called by tunes,");
        WhistledNames x = Checks.together(PLAIN, tune(0), tune(1, 1), tune(1));
        is("the first one's", x.call(0, tune(0), 0), 1);
        is("the second one's", x.call(0, tune(1, 1), 0), 2);
        is("the third one's", x.call(0, tune(1), 0), 4);
        is("nobody's", x.call(0, tune(1, 0), 0), 0);
    }

    private static void earsOverOneAnother() {
        says("with ears of kinds over one another,");
        int own = tune(2, 1, 3);
        int[][] underAndOver = {{PLAIN, LISP}, {PLAIN, HALF}, {LISP, BIRD}, {PLAIN, BIRD}, {DULL, HALF}, {HALF, DULL}};
        for (int[] ears : underAndOver) {
            int justTheOneUnder = 0;
            int justTheOneOver = 0;
            for (int whistled = tune(0); whistled <= tune(3, 3, 3, 3, 3); whistled++) {
                int under = Math.max(0, answer(ears[0], own, whistled, 1));
                int over = Math.max(0, answer(ears[1], own, whistled, 1));
                justTheOneUnder += under & ~over;
                justTheOneOver += over & ~under;
            }
            String what = "tunes at which turns, of the ears " + ears[0] + " and " + ears[1] + ", ";
            is(what + "just the first one", justTheOneUnder, 0);
            boolean isLike = ears[0] == DULL || ears[1] == DULL;
            is(what + "just the second one: there are some", justTheOneOver > 0 ? 1 : 0, isLike ? 0 : 1);
        }
    }

    private static int answer(int ear, int own, int whistled, int wind) {
        return Checks.withOne(ear, own).call(0, whistled, wind);
    }

    private static void earsOfKinds() {
        says("of a lisp, of half a tune, a mocking bird's, a blind one's;");
        WhistledNames x = new WhistledNames();
        for (int ear = 0; ear < 6; ear++) {
            is("EAR " + ear, x.one(ear, tune(2, 3, 0, 1), 0, 0), ear);
        }
        int plain = 1, lisp = 2, half = 4, bird = 8, blind = 16, dull = 32;
        is("the tune itself", x.call(0, tune(2, 3, 0, 1), 0), plain + lisp + half + bird + blind + dull);
        is("as one with a lisp has it", x.call(0, tune(1, 3, 0, 2), 0), lisp + bird);
        is("half of it", x.call(0, tune(2, 3), 0), half + dull);
        is("as long, with the last note", x.call(0, tune(0, 0, 0, 1), 0), bird);
        is("the last note of a shorter one", x.call(0, tune(0, 0, 1), 0), 0);
        is("half of it in the wind", x.call(0, tune(2), 1), half + dull);
        is("half of it in a wind in which nothing of the half is left", x.call(0, tune(2, 3), 2), 0);
        is("what comes is the tune", x.call(0, tune(3, 0, 1, 3), 2), plain + lisp + bird);
    }

    private static void turning() {
        says("who turns round at a call;");
        WhistledNames x = Checks.together(PLAIN, tune(0), tune(1), tune(0));
        x.move(2, 5);
        is("he who is near", x.call(0, tune(0), 0), 1);
        is("he who is far off", x.call(5, tune(0), 0), 4);
        x.hears(5, 0, 0);
        is("both", x.call(5, tune(0), 0), 5);
    }

    private static void takenForOneAnother() {
        says("whose tunes are taken for one another's, who must change so that none is;");
        WhistledNames x = Checks.together(PLAIN, tune(0, 3), tune(0), tune(1), tune(0, 2));
        is("a tune taken for another one's", x.taken(0, 1), 1);
        is("one that is not", x.taken(0, 2), 0);
        is("pairs", x.clash(0), 3);
        is("the first pair", x.clash(1), 1);
        is("who must change", x.alter(), 3);
        x.rename(0, tune(2));
        x.rename(1, tune(3));
        is("pairs left, if they do", x.clash(0), 0);
    }

    private static void shortestTunes() {
        says("the shortest tunes for all, kin beginning alike, exactly;");
        WhistledNames x = new WhistledNames();
        x.one(PLAIN, tune(3, 3, 3), 0, 2);
        x.one(PLAIN, tune(3, 3, 3), 0, 2);
        x.one(PLAIN, tune(3, 3, 3), 0, 1);
        is("notes in all", x.names(WhistledNames.NONE), 4);
        is("the first one's", x.names(0), tune(0));
        is("his kin's", x.names(1), tune(0, 0));
        is("the third one's", x.names(2), tune(1));
    }

    private static void bride() {
        says("a bride's new end;");
        WhistledNames x = Checks.together(PLAIN, tune(1, 0), tune(1, 0), tune(1, 1));
        is("the least end that is nobody's", x.bride(0), tune(1, 2));
    }

    private static void thief() {
        says("a thief with half a tune, the fewest notes that bring one out alone;");
        WhistledNames x = Checks.withOne(HALF, tune(1, 0, 2, 2));
        x.one(PLAIN, tune(1), 0, 0);
        is("one note brings out the other one, half the tune just him", x.thief(0, 0, 0), 2);
        is("one note brings out the other one alone", x.thief(0, 0, 1), 1);
    }

    private static void whatWasWhistled() {
        says("what was whistled, by who turned;");
        WhistledNames x = Checks.together(LISP, tune(2, 1), tune(0));
        is("as many tunes", x.whistled(0, 0, 1, 0), 4);
        is("the least of them", x.whistled(0, 0, 1, 1), tune(1, 1));
        is("nobody turned", x.whistled(0, 0, 0, 0), 1364 - 4 - 1);
    }

    private static void word() {
        says("word sent on by calls, the quickest;");
        WhistledNames x = new WhistledNames();
        x.one(PLAIN, tune(3), 0, 0);
        x.one(PLAIN, tune(0, 0), 1, 0);
        x.one(PLAIN, tune(1), 2, 0);
        x.hears(0, 1, 0);
        x.hears(1, 2, 0);
        is("by the second one", x.word(0, 2, 0, 0), 3);
        is("who has it ahead", x.word(0, 2, 0, 1), 1);
        x.hears(0, 2, 0);
        is("at once", x.word(0, 2, 0, 0), 1);
    }

    private static void dead() {
        says("tunes of the dead, free after so many years;");
        WhistledNames x = Checks.withOne(PLAIN, tune(0));
        x.dead(tune(2), 50);
        is("not yet", x.free(0, 58), -1);
        is("free", x.free(0, 59), tune(2));
    }

    private static void text() {
        says("a gorge told by a text;");
        WhistledNames x = Checks.withText("hears 0 1 3; one 0 4 1 0;");
        is("its items", x.read(), 2);
        is("he is there, and hears", x.call(0, 4, 0), 1);
    }

    private static void imagesAndRefusals() {
        says("images, calls undone, and what was refused, by reason.");
        WhistledNames x = Checks.withOne(PLAIN, tune(0));
        x.image(1);
        x.whistle(0, tune(0), 0);
        is("a call undone", x.undo(), 0);
        is("no call there: NO", x.undo(), -3);
        x.rename(0, tune(1));
        x.from(1);
        is("as the image has him", x.rename(0, tune(1)), tune(0));
        is("no such person: BAD", x.rename(1, tune(1)), -2);
        is("no such place: BAD", x.move(0, 6), -2);
        is("refused as BAD", x.status(0), 2);
        is("refused as NO", x.status(1), 1);
        is("refused as FULL", x.status(2), 0);
    }

    private static void notes() {
        says("======== 1 NOTES 0 ..");
        WhistledNames x = new WhistledNames();
        is("the note 0 is the lowest: it is never lost", x.comes(tune(0, 1, 2, 3), 3), tune(0));
        is("there is none below it", x.comes(tune(0) - 1, 0), -2);
    }

    // ---- 512 calls

    private static void allItsCalls() {
        says("An object is used for at most 512 calls after it has been made; what later calls answer is free.");
        WhistledNames x = new WhistledNames();
        for (int i = 1; i < CALLS; i++) {
            x.undo();
        }
        is("the last call, all those ahead refused", x.status(1), CALLS - 1);
        x = new WhistledNames();
        for (int i = 1; i < CALLS; i++) {
            x.type(' ', 1);
        }
        is("the last call, a byte each ahead", x.count(3), 200);
        sameAtEachCall(Checks.withPeople(7), 7);
        sameAtEachCall(Checks.withPeople(5), 5);
    }

    /** What changes nothing in the end answers alike up to the last call. */
    private static void sameAtEachCall(WhistledNames x, int callsSoFar) {
        Checks.CallWith[] calls = {(y, i) -> y.whistle(0, 4, 0), (y, i) -> y.undo(), (y, i) -> y.names(-1),
            (y, i) -> y.whistled(0, 0, 1, 0), (y, i) -> y.word(0, 1, 0, 0), (y, i) -> y.bride(0), (y, i) -> y.read(),
            (y, i) -> y.from(0), (y, i) -> y.alter(), (y, i) -> y.free(0, 99), (y, i) -> y.digest()};
        x.image(0);
        long[] first = new long[calls.length];
        for (int i = callsSoFar + 1; i < CALLS; i++) {
            int which = (i - callsSoFar - 1) % calls.length;
            long answer = calls[which].on(x, 0);
            if (i <= callsSoFar + calls.length) {
                first[which] = answer;
            } else {
                is("call " + i + ", as at first", answer, first[which]);
            }
        }
    }

    // ---- the public face

    private static void face() {
        faceSays("public final class WhistledNames {");
        int open = WhistledNames.class.getModifiers();
        is("public: 1", Modifier.isPublic(open) ? 1 : 0, 1);
        is("final: 1", Modifier.isFinal(open) ? 1 : 0, 1);
        is("in no package: 0", WhistledNames.class.getPackageName().length(), 0);
        constants();
        faceSays("public WhistledNames();");
        is("constructors", WhistledNames.class.getConstructors().length, 1);
        is("what it takes", WhistledNames.class.getConstructors()[0].getParameterCount(), 0);
        String[] methods = {"int hears(int p, int q, int w)", "int one(int ear, int tune, int place, int kin)",
            "int rename(int person, int tune)", "int move(int person, int place)", "int dead(int tune, int year)",
            "int comes(int tune, int wind)", "int type(long v, int n)", "int clear()", "int read()",
            "int call(int place, int tune, int wind)", "int whistle(int place, int tune, int wind)",
            "int turned(int call)", "int heardOf(int person)", "int undo()", "int taken(int a, int b)",
            "int clash(int what)", "int alter()", "int names(int person)", "int bride(int person)",
            "int thief(int place, int wind, int person)", "int whistled(int place, int wind, int who, int what)",
            "int word(int from, int to, int wind, int what)", "int free(int person, int year)", "int image(int i)",
            "int from(int i)", "int status(int what)", "int count(int what)", "long digest()"};
        List<String> there = methods();
        for (String method : methods) {
            faceSays("public " + method + ";");
            is("there with these types: 1", there.remove(types(method)) ? 1 : 0, 1);
        }
        faceSays("}");
        is("no other methods: " + there, there.size(), 0);
    }

    private static void constants() {
        faceSays("public static final int NONE = -1, BAD = -2, NO = -3, FULL = -4;");
        is("NONE", WhistledNames.NONE, -1);
        is("BAD", WhistledNames.BAD, -2);
        is("NO", WhistledNames.NO, -3);
        is("FULL", WhistledNames.FULL, -4);
        int open = 0;
        for (Field field : WhistledNames.class.getDeclaredFields()) {
            if (!Modifier.isPrivate(field.getModifiers())) {
                boolean isConstant = Modifier.isPublic(field.getModifiers()) && Modifier.isStatic(field.getModifiers())
                        && Modifier.isFinal(field.getModifiers()) && field.getType() == int.class;
                is(field + " is a constant: 1", isConstant ? 1 : 0, 1);
                open++;
            }
        }
        is("no other fields than these constants", open, 4);
    }

    private static void faceSays(String line) {
        Checks.says("The public face", line);
    }

    /** Its methods that are not private, as types() tells them; one that is static or not public so, too. */
    private static List<String> methods() {
        List<String> found = new ArrayList<>();
        for (Method method : WhistledNames.class.getDeclaredMethods()) {
            if (!Modifier.isPrivate(method.getModifiers())) {
                List<String> types = new ArrayList<>();
                for (Class<?> type : method.getParameterTypes()) {
                    types.add(type.getName());
                }
                String marks = Modifier.toString(method.getModifiers()).replace("public", "");
                found.add(marks + method.getReturnType() + " " + method.getName() + "(" + String.join(", ", types) + ")");
            }
        }
        return found;
    }

    /** The method without its parameters' names. */
    private static String types(String method) {
        return method.replaceAll("(int|long) \\w+([,)])", "$1$2");
    }
}
