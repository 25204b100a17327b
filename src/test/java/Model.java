import java.util.ArrayList;
import java.util.List;
import java.util.regex.Matcher;
import java.util.regex.Pattern;

/**
 * The document once more, as slowly and as literally as can be: tunes are texts of notes, every place,
 * wind, tune and choice is tried, and word is sent on among all sets of those who have it. RandomRuns
 * compares the program with it.
 */
final class Model {
    static final int NONE = -1, BAD = -2, NO = -3, FULL = -4;
    private static final int MANY = 1000000;

    private record Person(int ear, int tune, int place, int kin) {
    }

    private record Dead(int tune, int year) {
    }

    private static final class State {
        final List<Person> people = new ArrayList<>();
        final List<Dead> dead = new ArrayList<>();
        final List<Integer> calls = new ArrayList<>();
        final int[][] winds = new int[6][6];

        State() {
            for (int p = 0; p < 6; p++) {
                for (int q = 0; q < 6; q++) {
                    winds[p][q] = p == q ? 3 : NONE;
                }
            }
        }

        State copy() {
            State copy = new State();
            copy.people.addAll(people);
            copy.dead.addAll(dead);
            copy.calls.addAll(calls);
            for (int p = 0; p < 6; p++) {
                copy.winds[p] = winds[p].clone();
            }
            return copy;
        }
    }

    private State state = new State();
    private final State[] images = new State[2];
    private String text = "";
    private final int[] status = new int[3];

    // ---- tunes, as texts of notes

    static String notes(int tune) {
        return Integer.toString(tune, 4).substring(1);
    }

    static boolean isTune(int tune) {
        if (tune < 0) {
            return false;
        }
        String digits = Integer.toString(tune, 4);
        return digits.length() >= 2 && digits.length() <= 6 && digits.charAt(0) == '1';
    }

    static int number(String notes) {
        return Integer.parseInt("1" + notes, 4);
    }

    static String lessLost(String notes, int wind) {
        String left = "";
        for (char note : notes.toCharArray()) {
            if (note - '0' <= 3 - wind) {
                left += note;
            }
        }
        return left;
    }

    private static final int TUNES = 2048;
    // What turns() found for each ear, wind, own and whistled tune: 1 no, 2 yes; kept to save time.
    private static final byte[] KEPT = new byte[6 * 4 * TUNES * TUNES];

    private static boolean turns(int ear, int tune, int whistledTune, int wind) {
        int at = ((ear * 4 + wind) * TUNES + tune) * TUNES + whistledTune;
        if (KEPT[at] == 0) {
            KEPT[at] = (byte) (findTurns(ear, tune, whistledTune, wind) ? 2 : 1);
        }
        return KEPT[at] == 2;
    }

    private static boolean findTurns(int ear, int tune, int whistledTune, int wind) {
        String whistled = notes(whistledTune);
        String own = notes(tune);
        String came = lessLost(whistled, wind);
        String left = lessLost(own, wind);
        String half = lessLost(own.substring(0, own.length() - own.length() / 2), wind);
        boolean something = !came.isEmpty() && !left.isEmpty();
        boolean lisp = something && came.replace('2', '1').equals(left.replace('2', '1'));
        boolean byHalf = !came.isEmpty() && !half.isEmpty() && came.startsWith(half);
        switch (ear) {
            case 0:
                return something && came.equals(left);
            case 1:
                return lisp;
            case 2:
                return byHalf;
            case 3:
                boolean mocks = something && came.length() == left.length();
                return lisp || mocks && came.charAt(came.length() - 1) == left.charAt(left.length() - 1);
            case 4:
                return whistled.equals(own);
            default:
                return byHalf && wind <= 1;
        }
    }

    // ---- refusals

    private int bad(int answer) {
        status[0]++;
        return answer;
    }

    private int no(int answer) {
        status[1]++;
        return answer;
    }

    private int full() {
        status[2]++;
        return FULL;
    }

    private static boolean in(int number, int least, int greatest) {
        return number >= least && number <= greatest;
    }

    private boolean person(int person) {
        return in(person, 0, state.people.size() - 1);
    }

    // ---- a gorge

    int hears(int p, int q, int w) {
        int was = tellHears(state, p, q, w);
        return was == BAD ? bad(-10) : was;
    }

    private static int tellHears(State to, int p, int q, int w) {
        if (!in(p, 0, 5) || !in(q, 0, 5) || !in(w, -1, 3) || p == q) {
            return BAD;
        }
        int was = to.winds[p][q];
        to.winds[p][q] = to.winds[q][p] = w;
        return was;
    }

    int one(int ear, int tune, int place, int kin) {
        return told(tellOne(state, ear, tune, place, kin));
    }

    private static int tellOne(State to, int ear, int tune, int place, int kin) {
        if (!in(ear, 0, 5) || !isTune(tune) || !in(place, 0, 5) || !in(kin, 0, 3)) {
            return BAD;
        }
        if (to.people.size() == 7) {
            return FULL;
        }
        to.people.add(new Person(ear, tune, place, kin));
        return to.people.size() - 1;
    }

    int dead(int tune, int year) {
        return told(tellDead(state, tune, year));
    }

    private static int tellDead(State to, int tune, int year) {
        if (!isTune(tune) || !in(year, 0, 99)) {
            return BAD;
        }
        if (to.dead.size() == 6) {
            return FULL;
        }
        to.dead.add(new Dead(tune, year));
        return to.dead.size() - 1;
    }

    private int told(int answer) {
        return answer == BAD ? bad(BAD) : answer == FULL ? full() : answer;
    }

    int rename(int person, int tune) {
        if (!person(person) || !isTune(tune)) {
            return bad(BAD);
        }
        Person was = state.people.get(person);
        state.people.set(person, new Person(was.ear, tune, was.place, was.kin));
        return was.tune;
    }

    int move(int person, int place) {
        if (!person(person) || !in(place, 0, 5)) {
            return bad(BAD);
        }
        Person was = state.people.get(person);
        state.people.set(person, new Person(was.ear, was.tune, place, was.kin));
        return was.place;
    }

    int comes(int tune, int wind) {
        return isTune(tune) && in(wind, 0, 3) ? number(lessLost(notes(tune), wind)) : bad(BAD);
    }

    int type(long v, int n) {
        if (!in(n, 1, 8)) {
            return bad(BAD);
        }
        if (text.length() + n > 200) {
            return full();
        }
        String bytes = "";
        for (int i = 0; i < n; i++) {
            bytes = (char) (v & 255) + bytes;
            v >>>= 8;
        }
        text += bytes;
        return text.length();
    }

    int clear() {
        int had = text.length();
        text = "";
        return had;
    }

    int read() {
        List<Integer> starts = new ArrayList<>();
        List<String> tokens = new ArrayList<>();
        Matcher matcher = Pattern.compile("[a-z]+|[0-9]+|[^ ]", Pattern.DOTALL).matcher(text);
        while (matcher.find()) {
            starts.add(matcher.start());
            tokens.add(matcher.group());
        }
        List<String> words = List.of("hears", "one", "dead");
        int[] wanted = {3, 4, 2};
        List<int[]> items = new ArrayList<>();
        int at = 0;
        while (at < tokens.size()) {
            int word = words.indexOf(tokens.get(at));
            if (word < 0) {
                return -10 - starts.get(at);
            }
            int[] item = new int[5];
            item[0] = word;
            for (int i = 1; i <= wanted[word] + 1; i++) {
                at++;
                if (at == tokens.size()) {
                    return -10 - text.length();
                }
                boolean number = tokens.get(at).matches("[0-9]{1,4}");
                boolean end = tokens.get(at).equals(";");
                if (i <= wanted[word] ? !number : !end) {
                    return -10 - starts.get(at);
                }
                if (number) {
                    item[i] = Integer.parseInt(tokens.get(at));
                }
            }
            items.add(item);
            at++;
        }
        return tellItems(items);
    }

    private int tellItems(List<int[]> items) {
        State fresh = new State();
        for (int i = 0; i < items.size(); i++) {
            int[] n = items.get(i);
            int answer = n[0] == 0 ? tellHears(fresh, n[1], n[2], n[3])
                    : n[0] == 1 ? tellOne(fresh, n[1], n[2], n[3], n[4]) : tellDead(fresh, n[1], n[2]);
            if (answer == BAD || answer == FULL) {
                return -1000 - i;
            }
        }
        state = fresh;
        return items.size();
    }

    // ---- calls

    private int turners(int place, int tune, int wind) {
        int bits = 0;
        for (int i = 0; i < state.people.size(); i++) {
            Person one = state.people.get(i);
            if (wind <= state.winds[place][one.place] && turns(one.ear, one.tune, tune, wind)) {
                bits |= 1 << i;
            }
        }
        return bits;
    }

    int call(int place, int tune, int wind) {
        return in(place, 0, 5) && isTune(tune) && in(wind, 0, 3) ? turners(place, tune, wind) : bad(BAD);
    }

    int whistle(int place, int tune, int wind) {
        if (!in(place, 0, 5) || !isTune(tune) || !in(wind, 0, 3)) {
            return bad(BAD);
        }
        if (state.calls.size() == 8) {
            return full();
        }
        state.calls.add(turners(place, tune, wind));
        return state.calls.size() - 1;
    }

    int turned(int call) {
        return in(call, 0, state.calls.size() - 1) ? state.calls.get(call) : bad(BAD);
    }

    int heardOf(int person) {
        if (!person(person)) {
            return bad(BAD);
        }
        return (int) state.calls.stream().filter(bits -> (bits & 1 << person) != 0).count();
    }

    int undo() {
        if (state.calls.isEmpty()) {
            return no(NO);
        }
        state.calls.remove(state.calls.size() - 1);
        return state.calls.size();
    }

    // ---- tunes for all

    /** Whether b, with tuneB, turns at tuneA where both he and a hear it. */
    private boolean mistaken(int a, int tuneA, int b, int tuneB) {
        int placeA = state.people.get(a).place;
        int placeB = state.people.get(b).place;
        for (int place = 0; place < 6; place++) {
            for (int wind = 0; wind < 4; wind++) {
                boolean both = wind <= state.winds[place][placeA] && wind <= state.winds[place][placeB];
                if (both && turns(state.people.get(b).ear, tuneB, tuneA, wind)) {
                    return true;
                }
            }
        }
        return false;
    }

    private boolean clashes(int a, int tuneA, int b, int tuneB) {
        return mistaken(a, tuneA, b, tuneB) || mistaken(b, tuneB, a, tuneA);
    }

    private int tune(int person) {
        return state.people.get(person).tune;
    }

    int taken(int a, int b) {
        if (!person(a) || !person(b) || a == b) {
            return bad(BAD);
        }
        return mistaken(a, tune(a), b, tune(b)) ? 1 : 0;
    }

    private List<int[]> pairs() {
        List<int[]> pairs = new ArrayList<>();
        for (int a = 0; a < state.people.size(); a++) {
            for (int b = a + 1; b < state.people.size(); b++) {
                if (clashes(a, tune(a), b, tune(b))) {
                    pairs.add(new int[] {a, b});
                }
            }
        }
        return pairs;
    }

    int clash(int what) {
        if (!in(what, 0, 1)) {
            return bad(BAD);
        }
        List<int[]> pairs = pairs();
        if (what == 0) {
            return pairs.size();
        }
        return pairs.isEmpty() ? no(NO) : 10 * pairs.get(0)[0] + pairs.get(0)[1];
    }

    int alter() {
        List<int[]> pairs = pairs();
        int best = 127;
        for (int who = 126; who >= 0; who--) {
            int bits = who;
            boolean inEach = pairs.stream().allMatch(p -> (bits & (1 << p[0] | 1 << p[1])) != 0);
            if (inEach && Integer.bitCount(who) <= Integer.bitCount(best)) {
                best = who;
            }
        }
        return best;
    }

    private int fewest;
    private int[] named;
    // For two of the people and two short tunes: 0 not known yet, 1 no clash, 2 a clash.
    private byte[] keptClashes;

    int names(int person) {
        if (person != NONE && !person(person)) {
            return bad(-10);
        }
        if (state.people.size() > 5) {
            return no(-20);
        }
        fewest = MANY;
        named = null;
        keptClashes = new byte[5 * 5 * 32 * 32];
        tryNames(new int[state.people.size()], 0);
        if (named == null) {
            return NONE;
        }
        return person == NONE ? fewest : named[person];
    }

    private void tryNames(int[] tunes, int n) {
        if (n == tunes.length) {
            int sum = 0;
            for (int tune : tunes) {
                sum += tune < 16 ? 1 : 2;
            }
            if (sum < fewest) {
                fewest = sum;
                named = tunes.clone();
            }
            return;
        }
        for (int tune = 4; tune < 32; tune++) {
            if (isTune(tune) && fits(tunes, n, tune)) {
                tunes[n] = tune;
                tryNames(tunes, n + 1);
            }
        }
    }

    private boolean fits(int[] tunes, int n, int tune) {
        for (int i = 0; i < n; i++) {
            boolean kin = state.people.get(i).kin == state.people.get(n).kin;
            int firstOfHis = tunes[i] < 16 ? tunes[i] - 4 : (tunes[i] - 16) / 4;
            int first = tune < 16 ? tune - 4 : (tune - 16) / 4;
            if (kin && firstOfHis != first) {
                return false;
            }
            int at = ((5 * i + n) * 32 + tunes[i]) * 32 + tune;
            if (keptClashes[at] == 0) {
                keptClashes[at] = (byte) (clashes(i, tunes[i], n, tune) ? 2 : 1);
            }
            if (keptClashes[at] == 2) {
                return false;
            }
        }
        return true;
    }

    private boolean alone(int person, int tune) {
        for (int i = 0; i < state.people.size(); i++) {
            if (i != person && clashes(person, tune, i, tune(i))) {
                return false;
            }
        }
        return true;
    }

    int bride(int person) {
        if (!person(person)) {
            return bad(BAD);
        }
        String hers = notes(tune(person));
        for (int tune = 4; tune < 2048; tune++) {
            if (!isTune(tune)) {
                continue;
            }
            String its = notes(tune);
            if (its.length() == hers.length() && its.charAt(0) == hers.charAt(0) && alone(person, tune)) {
                return tune;
            }
        }
        return NONE;
    }

    int thief(int place, int wind, int person) {
        if (!in(place, 0, 5) || !in(wind, 0, 3) || !person(person)) {
            return bad(BAD);
        }
        String notes = notes(tune(person));
        for (int first = 1; first <= notes.length(); first++) {
            if (turners(place, number(notes.substring(0, first)), wind) == 1 << person) {
                return first;
            }
        }
        return NONE;
    }

    int whistled(int place, int wind, int who, int what) {
        int most = (1 << state.people.size()) - 1;
        if (!in(place, 0, 5) || !in(wind, 0, 3) || !in(who, 0, most) || !in(what, 0, 1)) {
            return bad(BAD);
        }
        int many = 0;
        int least = NONE;
        for (int tune = 2047; tune >= 4; tune--) {
            if (isTune(tune) && turners(place, tune, wind) == who) {
                many++;
                least = tune;
            }
        }
        return what == 0 ? many : many == 0 ? no(NO) : least;
    }

    int word(int from, int to, int wind, int what) {
        if (!person(from) || !person(to) || from == to || !in(wind, 0, 3) || !in(what, 0, 1)) {
            return bad(BAD);
        }
        int people = state.people.size();
        boolean[][] reaches = new boolean[people][people];
        for (int caller = 0; caller < people; caller++) {
            for (int i = 0; i < people; i++) {
                int bits = turners(state.people.get(caller).place, tune(i), wind);
                reaches[caller][i] = i != caller && (bits & ~(1 << caller)) == 1 << i;
            }
        }
        int[] notes = new int[1 << people];
        java.util.Arrays.fill(notes, MANY);
        notes[1 << from] = 0;
        int best = MANY;
        int last = NONE;
        // A set only grows by a call, so sets in the order of their numbers do.
        for (int set = 0; set < 1 << people; set++) {
            for (int caller = 0; caller < people; caller++) {
                for (int i = 0; i < people; i++) {
                    if ((set >> caller & 1) == 0 || (set >> i & 1) == 1 || !reaches[caller][i]) {
                        continue;
                    }
                    int sum = notes[set] + notes(tune(i)).length();
                    notes[set | 1 << i] = Math.min(notes[set | 1 << i], sum);
                    if (i == to && (sum < best || sum == best && caller < last)) {
                        best = sum;
                        last = caller;
                    }
                }
            }
        }
        return best >= MANY ? NONE : what == 0 ? best : last;
    }

    int free(int person, int year) {
        if (!person(person) || !in(year, 0, 99)) {
            return bad(BAD);
        }
        return state.dead.stream().filter(d -> year - d.year >= 9 && alone(person, d.tune))
                .mapToInt(Dead::tune).min().orElse(NONE);
    }

    // ---- what there is

    int image(int i) {
        if (!in(i, 0, 1)) {
            return bad(BAD);
        }
        images[i] = state.copy();
        return 1;
    }

    int from(int i) {
        if (!in(i, 0, 1)) {
            return bad(BAD);
        }
        if (images[i] == null) {
            return no(NO);
        }
        state = images[i].copy();
        return 1;
    }

    int status(int what) {
        return in(what, 0, 2) ? status[what] : bad(-1);
    }

    int count(int what) {
        if (!in(what, 0, 3)) {
            return bad(BAD);
        }
        return new int[] {state.people.size(), state.dead.size(), state.calls.size(), text.length()}[what];
    }

    long digest() {
        List<Integer> all = new ArrayList<>();
        for (int what = 0; what < 4; what++) {
            all.add(count(what));
        }
        for (int p = 1; p <= 5; p++) {
            for (int q = 0; q < p; q++) {
                all.add(state.winds[p][q]);
            }
        }
        state.people.forEach(p -> all.addAll(List.of(p.ear, p.tune, p.place, p.kin)));
        state.dead.forEach(d -> all.addAll(List.of(d.tune, d.year)));
        all.addAll(state.calls);
        long h = 757;
        for (int v : all) {
            h = 31 * h + v;
        }
        return h;
    }
}
