import java.util.Random;

/** Runs of calls, drawn by fixed seeds, on the program and on the Model at once. */
public final class RandomRuns {
    // What an object answers after so many calls is free; the dearest step here makes some thirty.
    private static final int CALLS = 512;
    private static final int CALLS_OF_A_STEP = 40;
    private static final String[] CALL_NAMES = {"hears", "one", "rename", "move", "dead", "comes", "type",
        "clear", "read", "call", "whistle", "turned", "heardOf", "undo", "taken", "clash", "alter", "names",
        "bride", "thief", "whistled", "word", "free", "image", "from", "status", "count", "digest"};

    private final Random random;
    private final WhistledNames program = new WhistledNames();
    private final Model model = new Model();
    private final int notes;
    private final int mostPeople;
    private final int places;
    private final int oddsOfWrong;
    private final int windy;
    private String told;
    private int used;

    private RandomRuns(long seed) {
        random = new Random(seed);
        notes = 1 + random.nextInt(5);
        mostPeople = random.nextBoolean() ? 1 + random.nextInt(8) : 2 + random.nextInt(4);
        places = 1 + random.nextInt(6);
        oddsOfWrong = random.nextInt(4) == 0 ? 3 : 60;
        windy = 1 + random.nextInt(4);
    }

    public static void main(String[] args) {
        int runs = args.length > 0 ? Integer.parseInt(args[0]) : 400;
        int passed = 0;
        int failed = 0;
        for (int seed = 1; seed <= runs; seed++) {
            if (new RandomRuns(seed).isAlike(seed)) {
                passed++;
            } else {
                failed++;
            }
        }
        System.out.println("RandomRuns: " + passed + " passed, " + failed + " failed");
        System.exit(failed == 0 ? 0 : 1);
    }

    private boolean isAlike(int seed) {
        for (int i = 0; used < CALLS - CALLS_OF_A_STEP; i++) {
            String name = next();
            long[] both = ask(name);
            if (both[0] != both[1]) {
                System.out.println("seed " + seed + ", call " + i + ": " + told + " answered " + both[0]
                        + ", the model " + both[1]);
                return false;
            }
            if (random.nextInt(8) == 0 && areDigestsOther()) {
                System.out.println("seed " + seed + ", call " + i + ": the digests differ after " + told);
                return false;
            }
        }
        return isStatusAlike(seed);
    }

    private boolean areDigestsOther() {
        used++;
        return program.digest() != model.digest();
    }

    private boolean isStatusAlike(int seed) {
        for (int what = 0; what < 3; what++) {
            if (program.status(what) != model.status(what)) {
                System.out.println("seed " + seed + ": status(" + what + ") differs");
                return false;
            }
        }
        return true;
    }

    private String next() {
        if (model.count(0) < mostPeople && random.nextInt(3) == 0) {
            return "one";
        }
        if (random.nextInt(12) == 0) {
            return "hears";
        }
        if (random.nextInt(15) == 0) {
            return "rename";
        }
        if (random.nextInt(15) == 0) {
            return "whistle";
        }
        String name = CALL_NAMES[random.nextInt(CALL_NAMES.length)];
        boolean rare = name.equals("read") || name.equals("from") || name.equals("undo");
        return rare && random.nextInt(3) != 0 ? "word" : name;
    }

    private int wrong() {
        int[] wrongs = {-1, -2, 2, 3, 4, 5, 6, 7, 8, 9, 10, 99, 100, 128, 256, 2048, Integer.MAX_VALUE,
            Integer.MIN_VALUE, random.nextInt()};
        return wrongs[random.nextInt(wrongs.length)];
    }

    private int below(int bound) {
        return random.nextInt(oddsOfWrong) == 0 ? wrong() : random.nextInt(Math.max(1, bound));
    }

    private int tune() {
        if (random.nextInt(oddsOfWrong) == 0) {
            return random.nextBoolean() ? wrong() : random.nextInt(2100);
        }
        int tune = 1;
        int many = 1 + random.nextInt(notes);
        for (int i = 0; i < many; i++) {
            tune = 4 * tune + random.nextInt(4);
        }
        return tune;
    }

    /** A tune of one of the people, found by giving him another one and his own back. */
    private int someonesTune() {
        if (model.count(0) == 0) {
            return tune();
        }
        int person = random.nextInt(model.count(0));
        used += 2;
        int tune = program.rename(person, 4);
        program.rename(person, tune);
        return tune;
    }

    private int person() {
        return below(model.count(0));
    }

    private int wind() {
        return below(windy);
    }

    private int place() {
        return below(places);
    }

    private long[] ask(String name) {
        switch (name) {
            case "hears":
            case "one":
            case "rename":
            case "move":
            case "dead":
            case "comes":
                return askOfGorge(name);
            case "type":
            case "clear":
            case "read":
                return askOfText(name);
            case "call":
            case "whistle":
            case "turned":
            case "heardOf":
            case "undo":
                return askOfCalls(name);
            case "image":
            case "from":
            case "status":
            case "count":
            case "digest":
                return askWhatThereIs(name);
            default:
                return askOfTunes(name);
        }
    }

    private long[] both(String call, long program, long model) {
        told = call;
        used++;
        return new long[] {program, model};
    }

    private long[] askOfGorge(String name) {
        int a = below(6);
        int b = below(6);
        int tune = tune();
        switch (name) {
            case "hears":
                int w = below(5) - 1;
                return both(row(name, a, b, w), program.hears(a, b, w), model.hears(a, b, w));
            case "one":
                int kin = below(4);
                int place = place();
                return both(row(name, a, tune, place, kin), program.one(a, tune, place, kin),
                        model.one(a, tune, place, kin));
            case "rename":
                int person = person();
                return both(row(name, person, tune), program.rename(person, tune), model.rename(person, tune));
            case "move":
                int mover = person();
                return both(row(name, mover, a), program.move(mover, a), model.move(mover, a));
            case "dead":
                int year = below(100);
                return both(row(name, tune, year), program.dead(tune, year), model.dead(tune, year));
            default:
                int wind = wind();
                return both(row(name, tune, wind), program.comes(tune, wind), model.comes(tune, wind));
        }
    }

    private long[] askOfText(String name) {
        if (name.equals("clear")) {
            return both(name, program.clear(), model.clear());
        }
        if (name.equals("read")) {
            if (random.nextBoolean()) {
                clearBoth();
                typeItems();
            }
            return both(name, program.read(), model.read());
        }
        if (random.nextInt(3) == 0) {
            long v = random.nextLong();
            int n = below(10);
            return both(row(name, (int) v, n), program.type(v, n), model.type(v, n));
        }
        if (random.nextInt(3) == 0) {
            clearBoth();
        }
        return typeItems();
    }

    private void clearBoth() {
        used++;
        program.clear();
        model.clear();
    }

    private long[] typeItems() {
        StringBuilder items = new StringBuilder();
        int many = 1 + random.nextInt(5);
        for (int i = 0; i < many; i++) {
            items.append(item());
        }
        String text = items.toString();
        if (random.nextInt(3) == 0) {
            String odd = " ;019az{/:`@AZ\t\0\377";
            int at = random.nextInt(text.length());
            char sign = odd.charAt(random.nextInt(odd.length()));
            text = text.substring(0, at) + sign + text.substring(at + random.nextInt(2));
        }
        long answer = 0;
        long due = 0;
        for (int at = 0; at < text.length(); at += 8) {
            String piece = text.substring(at, Math.min(text.length(), at + 8));
            long v = random.nextLong();
            for (char sign : piece.toCharArray()) {
                v = v << 8 | sign;
            }
            used++;
            answer = program.type(v, piece.length());
            due = model.type(v, piece.length());
        }
        return both("type: " + text, answer, due);
    }

    private String item() {
        String blank = random.nextInt(4) == 0 ? "  " : "";
        String gap = blank + " ";
        switch (random.nextInt(4)) {
            case 0:
                return blank + "hears" + gap + below(6) + gap + below(6) + " " + below(4) + blank + ";";
            case 1:
                return blank + "dead" + blank + tune() + gap + below(100) + ";" + blank;
            default:
                return "one" + blank + below(6) + gap + tune() + gap + place() + " " + below(4) + ";";
        }
    }

    private long[] askOfCalls(String name) {
        int place = place();
        int tune = random.nextBoolean() ? tune() : random.nextBoolean() ? 4 + random.nextInt(28) : someonesTune();
        int wind = wind();
        switch (name) {
            case "call":
                return both(row(name, place, tune, wind), program.call(place, tune, wind),
                        model.call(place, tune, wind));
            case "whistle":
                return both(row(name, place, tune, wind), program.whistle(place, tune, wind),
                        model.whistle(place, tune, wind));
            case "turned":
                int call = below(model.count(2) + 1);
                return both(row(name, call), program.turned(call), model.turned(call));
            case "heardOf":
                int person = person();
                return both(row(name, person), program.heardOf(person), model.heardOf(person));
            default:
                return both(name, program.undo(), model.undo());
        }
    }

    private long[] askOfTunes(String name) {
        int a = person();
        int b = person();
        int place = place();
        int wind = wind();
        int what = below(2);
        switch (name) {
            case "taken":
                return both(row(name, a, b), program.taken(a, b), model.taken(a, b));
            case "clash":
                return both(row(name, what), program.clash(what), model.clash(what));
            case "alter":
                return both(name, program.alter(), model.alter());
            case "names":
                int whose = random.nextBoolean() ? -1 : a;
                return both(row(name, whose), program.names(whose), model.names(whose));
            case "bride":
                return both(row(name, a), program.bride(a), model.bride(a));
            case "thief":
                return both(row(name, place, wind, a), program.thief(place, wind, a),
                        model.thief(place, wind, a));
            case "whistled":
                int who = random.nextBoolean() ? 1 << (a & 7) : below(130);
                return both(row(name, place, wind, who, what), program.whistled(place, wind, who, what),
                        model.whistled(place, wind, who, what));
            case "word":
                return both(row(name, a, b, wind, what), program.word(a, b, wind, what),
                        model.word(a, b, wind, what));
            default:
                int year = below(100);
                return both(row(name, a, year), program.free(a, year), model.free(a, year));
        }
    }

    private long[] askWhatThereIs(String name) {
        int i = below(2);
        int what = below(4);
        switch (name) {
            case "image":
                return both(row(name, i), program.image(i), model.image(i));
            case "from":
                return both(row(name, i), program.from(i), model.from(i));
            case "status":
                return both(row(name, what), program.status(what), model.status(what));
            case "count":
                return both(row(name, what), program.count(what), model.count(what));
            default:
                return both(name, program.digest(), model.digest());
        }
    }

    private static String row(String name, int... numbers) {
        StringBuilder row = new StringBuilder(name);
        for (int number : numbers) {
            row.append(' ').append(number);
        }
        return row.toString();
    }
}
