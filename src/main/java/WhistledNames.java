/** Names whistled in gorges; ../shared/DOC.md tells, as promises 1 to 29, what each call answers. */
public final class WhistledNames {
    public static final int NONE = -1, BAD = -2, NO = -3, FULL = -4;

    private static final int PLACES = 6;
    private static final int WINDS = 4;
    private static final int EARS = 6;
    private static final int KINS = 4;
    private static final int MOST_PEOPLE = 7;
    private static final int MOST_NAMED = 5;
    private static final int MOST_DEAD = 6;
    private static final int MOST_CALLS = 8;
    private static final int MOST_BYTES = 200;
    private static final int YEARS = 100;
    private static final int YEARS_UNTIL_FREE = 9;
    private static final int IMAGES = 2;

    private static final int PLAIN = 0, LISP = 1, HALF = 2, BIRD = 3, BLIND = 4, DULL = 5;

    private Gorge now;
    // A text is told into the spare one, so that one that is refused changes nothing.
    private Gorge spare;
    private final Gorge[] images;
    private final boolean[] kept;
    private final Text text;
    private final Whistler whistler;
    private final Namer namer;
    private final int[] refused;

    public WhistledNames() {
        now = new Gorge();
        spare = new Gorge();
        images = new Gorge[IMAGES];
        for (int i = 0; i < IMAGES; i++) {
            images[i] = new Gorge();
        }
        kept = new boolean[IMAGES];
        text = new Text();
        whistler = new Whistler();
        namer = new Namer();
        refused = new int[3];
    }

    // ---- a gorge

    public int hears(int p, int q, int w) {
        int was = now.tellWind(p, q, w);
        return was == BAD ? refuse(BAD, -10) : was;
    }

    public int one(int ear, int tune, int place, int kin) {
        return counted(now.tellPerson(ear, tune, place, kin));
    }

    public int rename(int person, int tune) {
        if (!now.isPerson(person) || !Tune.isTune(tune)) {
            return refuse(BAD, BAD);
        }
        int was = now.tunes[person];
        now.tunes[person] = tune;
        return was;
    }

    public int move(int person, int place) {
        if (!now.isPerson(person) || !isBelow(place, PLACES)) {
            return refuse(BAD, BAD);
        }
        int was = now.places[person];
        now.places[person] = place;
        return was;
    }

    public int dead(int tune, int year) {
        return counted(now.tellDead(tune, year));
    }

    public int comes(int tune, int wind) {
        if (!Tune.isTune(tune) || !isBelow(wind, WINDS)) {
            return refuse(BAD, BAD);
        }
        return Tune.lessLost(tune, wind);
    }

    public int type(long v, int n) {
        if (n < 1 || n > 8) {
            return refuse(BAD, BAD);
        }
        return counted(text.add(v, n));
    }

    public int clear() {
        int had = text.length;
        text.length = 0;
        return had;
    }

    public int read() {
        int fault = text.tellInto(spare);
        if (fault != NONE) {
            return -10 - fault;
        }
        if (text.firstRefused != NONE) {
            return -1000 - text.firstRefused;
        }
        Gorge was = now;
        now = spare;
        spare = was;
        return text.items;
    }

    // ---- calls

    public int call(int place, int tune, int wind) {
        if (!isCall(place, tune, wind)) {
            return refuse(BAD, BAD);
        }
        return whistler.turners(now, place, tune, wind);
    }

    public int whistle(int place, int tune, int wind) {
        if (!isCall(place, tune, wind)) {
            return refuse(BAD, BAD);
        }
        if (now.calls >= MOST_CALLS) {
            return refuse(FULL, FULL);
        }
        now.turners[now.calls] = whistler.turners(now, place, tune, wind);
        now.calls++;
        return now.calls - 1;
    }

    public int turned(int call) {
        if (!isBelow(call, now.calls)) {
            return refuse(BAD, BAD);
        }
        return now.turners[call];
    }

    public int heardOf(int person) {
        if (!now.isPerson(person)) {
            return refuse(BAD, BAD);
        }
        int heard = 0;
        for (int i = 0; i < now.calls; i++) {
            heard += (now.turners[i] >> person) & 1;
        }
        return heard;
    }

    public int undo() {
        if (now.calls < 1) {
            return refuse(NO, NO);
        }
        now.calls--;
        return now.calls;
    }

    // ---- tunes for all

    public int taken(int a, int b) {
        if (!now.isPerson(a) || !now.isPerson(b) || a == b) {
            return refuse(BAD, BAD);
        }
        return whistler.isTakenFor(now, a, b) ? 1 : 0;
    }

    public int clash(int what) {
        if (!isBelow(what, 2)) {
            return refuse(BAD, BAD);
        }
        whistler.findClashes(now);
        int pairs = 0;
        int first = NONE;
        for (int a = 0; a < now.people; a++) {
            for (int b = a + 1; b < now.people; b++) {
                if ((whistler.clashing[a] >> b & 1) != 0) {
                    first = first == NONE ? 10 * a + b : first;
                    pairs++;
                }
            }
        }
        if (what == 0) {
            return pairs;
        }
        return pairs == 0 ? refuse(NO, NO) : first;
    }

    public int alter() {
        whistler.findClashes(now);
        return whistler.fewestInEachPair(now.people);
    }

    public int names(int person) {
        if (person != NONE && !now.isPerson(person)) {
            return refuse(BAD, -10);
        }
        if (now.people > MOST_NAMED) {
            return refuse(NO, -20);
        }
        if (!namer.find(now)) {
            return NONE;
        }
        return person == NONE ? namer.fewest : Namer.shortTune(namer.best[person]);
    }

    public int bride(int person) {
        if (!now.isPerson(person)) {
            return refuse(BAD, BAD);
        }
        return whistler.leastNewEnd(now, person);
    }

    public int thief(int place, int wind, int person) {
        if (!isBelow(place, PLACES) || !isBelow(wind, WINDS) || !now.isPerson(person)) {
            return refuse(BAD, BAD);
        }
        int tune = now.tunes[person];
        int notes = Tune.notes(tune);
        for (int first = 1; first <= notes; first++) {
            int beginning = tune >> (2 * (notes - first));
            int turners = whistler.turners(now, place, beginning, wind);
            if (turners == 1 << person) {
                return first;
            }
        }
        return NONE;
    }

    public int whistled(int place, int wind, int who, int what) {
        if (!isBelow(place, PLACES) || !isBelow(wind, WINDS)) {
            return refuse(BAD, BAD);
        }
        if (!isBelow(who, 1 << now.people) || !isBelow(what, 2)) {
            return refuse(BAD, BAD);
        }
        whistler.findWhistled(now, place, wind, who);
        if (what == 0) {
            return whistler.found;
        }
        return whistler.found == 0 ? refuse(NO, NO) : whistler.least;
    }

    public int word(int from, int to, int wind, int what) {
        if (!now.isPerson(from) || !now.isPerson(to) || from == to) {
            return refuse(BAD, BAD);
        }
        if (!isBelow(wind, WINDS) || !isBelow(what, 2)) {
            return refuse(BAD, BAD);
        }
        whistler.sendWord(now, from, wind);
        int notes = whistler.notesUntil[to];
        if (notes == NONE) {
            return NONE;
        }
        return what == 0 ? notes : whistler.lastCaller(now, to);
    }

    public int free(int person, int year) {
        if (!now.isPerson(person) || !isBelow(year, YEARS)) {
            return refuse(BAD, BAD);
        }
        int least = NONE;
        for (int i = 0; i < now.deadOnes; i++) {
            int tune = now.deadTunes[i];
            boolean lesser = least == NONE || tune < least;
            boolean isFree = year >= now.years[i] + YEARS_UNTIL_FREE;
            if (lesser && isFree && whistler.standsAlone(now, person, tune)) {
                least = tune;
            }
        }
        return least;
    }

    // ---- what there is

    public int image(int i) {
        if (!isBelow(i, IMAGES)) {
            return refuse(BAD, BAD);
        }
        images[i].become(now);
        kept[i] = true;
        return 1;
    }

    public int from(int i) {
        if (!isBelow(i, IMAGES)) {
            return refuse(BAD, BAD);
        }
        if (!kept[i]) {
            return refuse(NO, NO);
        }
        now.become(images[i]);
        return 1;
    }

    public int status(int what) {
        if (!isBelow(what, refused.length)) {
            return refuse(BAD, NONE);
        }
        return refused[what];
    }

    public int count(int what) {
        switch (what) {
            case 0:
                return now.people;
            case 1:
                return now.deadOnes;
            case 2:
                return now.calls;
            case 3:
                return text.length;
            default:
                return refuse(BAD, BAD);
        }
    }

    public long digest() {
        long h = 757;
        h = 31 * h + now.people;
        h = 31 * h + now.deadOnes;
        h = 31 * h + now.calls;
        h = 31 * h + text.length;
        return now.digestOn(h);
    }

    // ---- refusals

    private int refuse(int reason, int answer) {
        int row = BAD - reason;
        if (row >= 0 && row < refused.length) {
            refused[row]++;
        }
        return answer;
    }

    /** An answer of the gorge's or the text's own: no other answer of theirs is as low as BAD. */
    private int counted(int answer) {
        return answer <= BAD ? refuse(answer, answer) : answer;
    }

    private static boolean isBelow(int number, int bound) {
        return number >= 0 && number < bound;
    }

    private static boolean isCall(int place, int tune, int wind) {
        return isBelow(place, PLACES) && Tune.isTune(tune) && isBelow(wind, WINDS);
    }

    /** What is to be known of tunes told as numbers: a 1, then the notes as digits to the base 4. */
    private static final class Tune {
        static final int EMPTY = 1;
        static final int MOST_NOTES = 5;

        private Tune() {
        }

        static boolean isTune(int number) {
            return notes(number) > 0;
        }

        static int notes(int tune) {
            for (int notes = 1; notes <= MOST_NOTES; notes++) {
                if (tune >> (2 * notes) == 1) {
                    return notes;
                }
            }
            return 0;
        }

        /** With a middle note, too. */
        static int firstHalf(int tune) {
            return tune >> (2 * (notes(tune) / 2));
        }

        static int lessLost(int tune, int wind) {
            if (wind < 1) {
                return tune;
            }
            int left = EMPTY;
            for (int i = notes(tune) - 1; i >= 0; i--) {
                int note = (tune >> (2 * i)) & 3;
                if (note <= 3 - wind) {
                    left = 4 * left + note;
                }
            }
            return left;
        }

        static int lisped(int tune) {
            // The low bit of each digit that is 2: taking it off makes that digit 1.
            int twos = (tune >> 1) & ~tune & 0x555;
            return tune - twos;
        }

        static boolean begins(int tune, int beginning) {
            for (int i = 0; i < MOST_NOTES; i++) {
                if (tune >> (2 * i) == beginning) {
                    return true;
                }
            }
            return false;
        }
    }

    /** One's ear in one wind, made ready once, so that many tunes can be tried on it. */
    private static final class Listener {
        private int ear;
        private int own;
        private int left;
        private boolean asleep;

        void makeReady(int itsEar, int itsTune, int wind) {
            ear = itsEar;
            own = itsTune;
            boolean byHalf = ear == HALF || ear == DULL;
            left = Tune.lessLost(byHalf ? Tune.firstHalf(own) : own, wind);
            asleep = ear == DULL && wind > 1;
        }

        void fallAsleep() {
            asleep = true;
        }

        boolean turnsAt(int whistled, int came) {
            if (asleep) {
                return false;
            }
            if (ear == BLIND) {
                return whistled == own;
            }
            if (came == Tune.EMPTY || left == Tune.EMPTY) {
                return false;
            }
            switch (ear) {
                case LISP:
                    return turnsLisping(came);
                case BIRD:
                    return turnsLisping(came) || mocks(came);
                case HALF:
                case DULL:
                    return Tune.begins(came, left);
                case PLAIN:
                default:
                    return came == left;
            }
        }

        private boolean turnsLisping(int came) {
            return Tune.lisped(came) == Tune.lisped(left);
        }

        private boolean mocks(int came) {
            return (came & 3) == (left & 3) && Tune.notes(came) == Tune.notes(left);
        }
    }

    /** All that an image keeps: who hears whom, the people, the dead, the calls told. */
    private static final class Gorge {
        int people;
        int deadOnes;
        int calls;
        final int[] winds = new int[PLACES * PLACES];
        final int[] ears = new int[MOST_PEOPLE];
        final int[] tunes = new int[MOST_PEOPLE];
        final int[] places = new int[MOST_PEOPLE];
        final int[] kins = new int[MOST_PEOPLE];
        final int[] deadTunes = new int[MOST_DEAD];
        final int[] years = new int[MOST_DEAD];
        final int[] turners = new int[MOST_CALLS];

        Gorge() {
            empty();
        }

        void empty() {
            people = 0;
            deadOnes = 0;
            calls = 0;
            for (int p = 0; p < PLACES; p++) {
                for (int q = 0; q < PLACES; q++) {
                    winds[p * PLACES + q] = p == q ? WINDS - 1 : NONE;
                }
            }
        }

        void become(Gorge other) {
            people = other.people;
            deadOnes = other.deadOnes;
            calls = other.calls;
            System.arraycopy(other.winds, 0, winds, 0, winds.length);
            System.arraycopy(other.ears, 0, ears, 0, MOST_PEOPLE);
            System.arraycopy(other.tunes, 0, tunes, 0, MOST_PEOPLE);
            System.arraycopy(other.places, 0, places, 0, MOST_PEOPLE);
            System.arraycopy(other.kins, 0, kins, 0, MOST_PEOPLE);
            System.arraycopy(other.deadTunes, 0, deadTunes, 0, MOST_DEAD);
            System.arraycopy(other.years, 0, years, 0, MOST_DEAD);
            System.arraycopy(other.turners, 0, turners, 0, MOST_CALLS);
        }

        boolean isPerson(int person) {
            return isBelow(person, people);
        }

        int tellWind(int p, int q, int w) {
            if (!isBelow(p, PLACES) || !isBelow(q, PLACES) || p == q) {
                return BAD;
            }
            if (w != NONE && !isBelow(w, WINDS)) {
                return BAD;
            }
            int was = winds[p * PLACES + q];
            winds[p * PLACES + q] = w;
            winds[q * PLACES + p] = w;
            return was;
        }

        int tellPerson(int ear, int tune, int place, int kin) {
            if (!isBelow(ear, EARS) || !Tune.isTune(tune)) {
                return BAD;
            }
            if (!isBelow(place, PLACES) || !isBelow(kin, KINS)) {
                return BAD;
            }
            if (people >= MOST_PEOPLE) {
                return FULL;
            }
            ears[people] = ear;
            tunes[people] = tune;
            places[people] = place;
            kins[people] = kin;
            people++;
            return people - 1;
        }

        int tellDead(int tune, int year) {
            if (!Tune.isTune(tune) || !isBelow(year, YEARS)) {
                return BAD;
            }
            if (deadOnes >= MOST_DEAD) {
                return FULL;
            }
            deadTunes[deadOnes] = tune;
            years[deadOnes] = year;
            deadOnes++;
            return deadOnes - 1;
        }

        /** The greatest wind by which one place is heard where both are, or NONE. */
        int greatestSharedWind(int a, int b) {
            int greatest = NONE;
            for (int p = 0; p < PLACES; p++) {
                int atA = winds[p * PLACES + places[a]];
                int atB = winds[p * PLACES + places[b]];
                greatest = Math.max(greatest, Math.min(atA, atB));
            }
            return greatest;
        }

        long digestOn(long h) {
            for (int p = 1; p < PLACES; p++) {
                for (int q = 0; q < p; q++) {
                    h = 31 * h + winds[p * PLACES + q];
                }
            }
            for (int i = 0; i < people; i++) {
                h = 31 * h + ears[i];
                h = 31 * h + tunes[i];
                h = 31 * h + places[i];
                h = 31 * h + kins[i];
            }
            for (int i = 0; i < deadOnes; i++) {
                h = 31 * h + deadTunes[i];
                h = 31 * h + years[i];
            }
            for (int i = 0; i < calls; i++) {
                h = 31 * h + turners[i];
            }
            return h;
        }
    }

    /** Who turns at what, and whose tunes are taken for whose; its rows are used again by each call. */
    private static final class Whistler {
        private final Listener[] listeners;
        private final Listener single;
        private final int[] callable = new int[MOST_PEOPLE];
        final int[] clashing = new int[MOST_PEOPLE];
        final int[] notesUntil = new int[MOST_PEOPLE];
        int found;
        int least;

        Whistler() {
            listeners = new Listener[MOST_PEOPLE];
            for (int i = 0; i < MOST_PEOPLE; i++) {
                listeners[i] = new Listener();
            }
            single = new Listener();
        }

        int turners(Gorge gorge, int place, int tune, int wind) {
            listen(gorge, place, wind);
            return turnersReady(gorge.people, tune, wind);
        }

        private void listen(Gorge gorge, int place, int wind) {
            for (int i = 0; i < gorge.people; i++) {
                listeners[i].makeReady(gorge.ears[i], gorge.tunes[i], wind);
                if (wind > gorge.winds[place * PLACES + gorge.places[i]]) {
                    listeners[i].fallAsleep();
                }
            }
        }

        private int turnersReady(int people, int tune, int wind) {
            int came = Tune.lessLost(tune, wind);
            int bits = 0;
            for (int i = 0; i < people; i++) {
                if (listeners[i].turnsAt(tune, came)) {
                    bits |= 1 << i;
                }
            }
            return bits;
        }

        void findWhistled(Gorge gorge, int place, int wind, int who) {
            listen(gorge, place, wind);
            found = 0;
            least = NONE;
            for (int notes = 1; notes <= Tune.MOST_NOTES; notes++) {
                int lowest = 1 << (2 * notes);
                for (int tune = lowest; tune < 2 * lowest; tune++) {
                    if (turnersReady(gorge.people, tune, wind) == who) {
                        least = found == 0 ? tune : least;
                        found++;
                    }
                }
            }
        }

        boolean isTakenFor(Gorge gorge, int a, int b) {
            int greatest = gorge.greatestSharedWind(a, b);
            return turnsBy(greatest, gorge.ears[b], gorge.tunes[b], gorge.tunes[a]);
        }

        private boolean turnsBy(int greatestWind, int ear, int own, int whistled) {
            for (int wind = 0; wind <= greatestWind; wind++) {
                single.makeReady(ear, own, wind);
                if (single.turnsAt(whistled, Tune.lessLost(whistled, wind))) {
                    return true;
                }
            }
            return false;
        }

        void findClashes(Gorge gorge) {
            for (int a = 0; a < gorge.people; a++) {
                clashing[a] = 0;
                for (int b = 0; b < gorge.people; b++) {
                    if (a != b && (isTakenFor(gorge, a, b) || isTakenFor(gorge, b, a))) {
                        clashing[a] |= 1 << b;
                    }
                }
            }
        }

        int fewestInEachPair(int people) {
            int everybody = (1 << people) - 1;
            int best = everybody;
            for (int who = 0; who < everybody; who++) {
                if (Integer.bitCount(who) < Integer.bitCount(best) && isInEachPair(who, people)) {
                    best = who;
                }
            }
            return best;
        }

        private boolean isInEachPair(int who, int people) {
            for (int a = 0; a < people; a++) {
                boolean left = (who >> a & 1) == 0;
                if (left && (clashing[a] & ~who) != 0) {
                    return false;
                }
            }
            return true;
        }

        /** Whether, were the tune one's, nobody's would be taken for it, and it for nobody's. */
        boolean standsAlone(Gorge gorge, int person, int tune) {
            for (int i = 0; i < gorge.people; i++) {
                if (i == person) {
                    continue;
                }
                int greatest = gorge.greatestSharedWind(person, i);
                if (turnsBy(greatest, gorge.ears[i], gorge.tunes[i], tune)) {
                    return false;
                }
                if (turnsBy(greatest, gorge.ears[person], tune, gorge.tunes[i])) {
                    return false;
                }
            }
            return true;
        }

        int leastNewEnd(Gorge gorge, int person) {
            int hers = gorge.tunes[person];
            int endBits = 2 * (Tune.notes(hers) - 1);
            int start = hers >> endBits << endBits;
            int ends = 1 << endBits;
            for (int end = 0; end < ends; end++) {
                if (standsAlone(gorge, person, start + end)) {
                    return start + end;
                }
            }
            return NONE;
        }

        /** The fewest notes until each has it: a quickest way calls nobody twice, so people rounds do. */
        void sendWord(Gorge gorge, int from, int wind) {
            findCallable(gorge, wind);
            for (int i = 0; i < gorge.people; i++) {
                notesUntil[i] = i == from ? 0 : NONE;
            }
            for (int round = 0; round < gorge.people; round++) {
                for (int caller = 0; caller < gorge.people; caller++) {
                    if (notesUntil[caller] != NONE) {
                        passOn(gorge, caller);
                    }
                }
            }
        }

        private void findCallable(Gorge gorge, int wind) {
            for (int caller = 0; caller < gorge.people; caller++) {
                callable[caller] = 0;
                listen(gorge, gorge.places[caller], wind);
                for (int i = 0; i < gorge.people; i++) {
                    int bits = turnersReady(gorge.people, gorge.tunes[i], wind);
                    if (i != caller && (bits & ~(1 << caller)) == 1 << i) {
                        callable[caller] |= 1 << i;
                    }
                }
            }
        }

        private void passOn(Gorge gorge, int caller) {
            for (int i = 0; i < gorge.people; i++) {
                if ((callable[caller] >> i & 1) == 0) {
                    continue;
                }
                int notes = notesUntil[caller] + Tune.notes(gorge.tunes[i]);
                if (notesUntil[i] == NONE || notes < notesUntil[i]) {
                    notesUntil[i] = notes;
                }
            }
        }

        int lastCaller(Gorge gorge, int to) {
            int before = notesUntil[to] - Tune.notes(gorge.tunes[to]);
            for (int caller = 0; caller < gorge.people; caller++) {
                boolean calls = (callable[caller] >> to & 1) != 0;
                if (calls && notesUntil[caller] == before) {
                    return caller;
                }
            }
            return NONE;
        }
    }

    /** The shortest tunes for all; a tune of 1 or 2 notes is told here by its row, 0 to 19. */
    private static final class Namer {
        private static final int ROWS = 20;
        private static final int ALL_ROWS = (1 << ROWS) - 1;
        private static final int ONE_NOTE_ROWS = 15;
        private static final int TOO_MANY_NOTES = 2 * MOST_NAMED + 1;

        private boolean ready;
        // For each ear, greatest wind and row: the rows of others at which one of that row turns ..
        private final int[] turnsAtRows = new int[EARS * WINDS * ROWS];
        // .. and the rows of which one turns at that row.
        private final int[] rowsTurning = new int[EARS * WINDS * ROWS];
        private final int[] came = new int[ROWS];
        private final Listener listener = new Listener();

        private final int[] sharedWinds = new int[MOST_NAMED * MOST_NAMED];
        private final int[] open = new int[(MOST_NAMED + 1) * MOST_NAMED];
        private final int[] chosen = new int[MOST_NAMED];
        final int[] best = new int[MOST_NAMED];
        int fewest;

        static int shortTune(int row) {
            return row < 4 ? 4 + row : 12 + row;
        }

        private static int firstNote(int row) {
            return row < 4 ? row : (row - 4) / 4;
        }

        private static int rowsFirst(int note) {
            return 1 << note | 15 << (4 + 4 * note);
        }

        /** Whether there are such tunes; those found are in best, all their notes in fewest. */
        boolean find(Gorge gorge) {
            if (gorge.people > MOST_NAMED) {
                return false;
            }
            if (!ready) {
                fillRows();
                ready = true;
            }
            for (int a = 0; a < gorge.people; a++) {
                for (int b = 0; b < gorge.people; b++) {
                    sharedWinds[a * MOST_NAMED + b] = gorge.greatestSharedWind(a, b);
                }
            }
            // Rows that go with none of another one's are left out first: else the search is far longer.
            for (int a = 0; a < gorge.people; a++) {
                open[a] = rowsWithOthers(gorge, a);
            }
            fewest = TOO_MANY_NOTES;
            choose(this, gorge, 0, 0);
            return fewest < TOO_MANY_NOTES;
        }

        private int rowsWithOthers(Gorge gorge, int person) {
            int rows = 0;
            for (int row = 0; row < ROWS; row++) {
                boolean goes = true;
                for (int i = 0; i < gorge.people; i++) {
                    goes = goes && (i == person || rowsGoingWith(gorge, person, row, i) != 0);
                }
                rows |= goes ? 1 << row : 0;
            }
            return rows;
        }

        /** The rows of another one by which neither's tune is taken for the other's; alike, if they are kin. */
        private int rowsGoingWith(Gorge gorge, int person, int row, int other) {
            int rows = ALL_ROWS;
            int wind = sharedWinds[person * MOST_NAMED + other];
            if (wind != NONE) {
                rows &= ~turnsAtRows[(gorge.ears[person] * WINDS + wind) * ROWS + row];
                rows &= ~rowsTurning[(gorge.ears[other] * WINDS + wind) * ROWS + row];
            }
            if (gorge.kins[other] == gorge.kins[person]) {
                rows &= rowsFirst(firstNote(row));
            }
            return rows;
        }

        private void fillRows() {
            for (int wind = 0; wind < WINDS; wind++) {
                for (int row = 0; row < ROWS; row++) {
                    came[row] = Tune.lessLost(shortTune(row), wind);
                }
                for (int ear = 0; ear < EARS; ear++) {
                    takeOverLesserWind(ear, wind);
                    for (int own = 0; own < ROWS; own++) {
                        fillOwn(ear, wind, own);
                    }
                }
            }
        }

        private void takeOverLesserWind(int ear, int wind) {
            if (wind < 1) {
                return;
            }
            int at = (ear * WINDS + wind) * ROWS;
            System.arraycopy(turnsAtRows, at - ROWS, turnsAtRows, at, ROWS);
            System.arraycopy(rowsTurning, at - ROWS, rowsTurning, at, ROWS);
        }

        private void fillOwn(int ear, int wind, int own) {
            int at = (ear * WINDS + wind) * ROWS;
            listener.makeReady(ear, shortTune(own), wind);
            for (int row = 0; row < ROWS; row++) {
                if (listener.turnsAt(shortTune(row), came[row])) {
                    turnsAtRows[at + own] |= 1 << row;
                    rowsTurning[at + row] |= 1 << own;
                }
            }
        }

        /** Tries the rows in their order, so that of like choices the first one is found first. */
        private static void choose(Namer namer, Gorge gorge, int person, int notes) {
            if (person >= gorge.people || person >= MOST_NAMED) {
                namer.keepBest(notes);
                return;
            }
            if (notes + namer.leastNotesFrom(gorge.people, person) >= namer.fewest) {
                return;
            }
            int rows = namer.open[person * MOST_NAMED + person];
            for (int row = 0; row < ROWS; row++) {
                if ((rows >> row & 1) != 0) {
                    namer.chosen[person] = row;
                    namer.narrow(gorge, person, row);
                    choose(namer, gorge, person + 1, notes + (row < 4 ? 1 : 2));
                }
            }
        }

        private void keepBest(int notes) {
            if (notes < fewest) {
                fewest = notes;
                System.arraycopy(chosen, 0, best, 0, MOST_NAMED);
            }
        }

        private int leastNotesFrom(int people, int person) {
            int notes = 0;
            for (int i = person; i < people; i++) {
                int rows = open[person * MOST_NAMED + i];
                if (rows == 0) {
                    return TOO_MANY_NOTES;
                }
                notes += (rows & ONE_NOTE_ROWS) != 0 ? 1 : 2;
            }
            return notes;
        }

        private void narrow(Gorge gorge, int person, int row) {
            for (int i = person + 1; i < gorge.people; i++) {
                int rows = open[person * MOST_NAMED + i] & rowsGoingWith(gorge, person, row, i);
                open[(person + 1) * MOST_NAMED + i] = rows;
            }
        }
    }

    /** The text by which a gorge is told, and its tokens. */
    private static final class Text {
        private static final int END = 0, WORD = 1, NUMBER = 2, SEMICOLON = 3, WRONG = 4;
        private static final int HEARS = 0, ONE = 1, DEAD = 2;
        private static final int MOST_FIGURES = 4;

        int length;
        int items;
        int firstRefused;
        private final int[] bytes = new int[MOST_BYTES];
        private final int[] numbers = new int[4];
        private int at;
        private int tokenStart;
        private int token;
        private int value;

        int add(long v, int n) {
            if (length + n > MOST_BYTES) {
                return FULL;
            }
            for (int i = n - 1; i >= 0; i--) {
                bytes[length] = (int) (v >> (8 * i)) & 255;
                length++;
            }
            return length;
        }

        /** The fault, or NONE; then items are how many there are, and firstRefused may be NONE, too. */
        int tellInto(Gorge gorge) {
            gorge.empty();
            at = 0;
            items = 0;
            firstRefused = NONE;
            for (int i = 0; i <= MOST_BYTES; i++) {
                nextToken();
                if (token == END) {
                    return NONE;
                }
                if (token != WORD) {
                    return tokenStart;
                }
                int item = value;
                if (!isRestOfItem(item)) {
                    return tokenStart;
                }
                if (firstRefused == NONE && tellItem(gorge, item) <= BAD) {
                    firstRefused = items;
                }
                items++;
            }
            return NONE;
        }

        private boolean isRestOfItem(int item) {
            int wanted = numbersOf(item);
            for (int i = 0; i < wanted; i++) {
                nextToken();
                if (token != NUMBER) {
                    return false;
                }
                numbers[i] = value;
            }
            nextToken();
            return token == SEMICOLON;
        }

        private static int numbersOf(int item) {
            switch (item) {
                case HEARS:
                    return 3;
                case ONE:
                    return 4;
                default:
                    return 2;
            }
        }

        private int tellItem(Gorge gorge, int item) {
            switch (item) {
                case HEARS:
                    return gorge.tellWind(numbers[0], numbers[1], numbers[2]);
                case ONE:
                    return gorge.tellPerson(numbers[0], numbers[1], numbers[2], numbers[3]);
                default:
                    return gorge.tellDead(numbers[0], numbers[1]);
            }
        }

        private void nextToken() {
            skipBlanks();
            tokenStart = at;
            if (at >= length) {
                token = END;
            } else if (isLetter(bytes[at])) {
                takeWord();
            } else if (isFigure(bytes[at])) {
                takeNumber();
            } else {
                token = bytes[at] == ';' ? SEMICOLON : WRONG;
                at++;
            }
        }

        private void skipBlanks() {
            while (at < length && bytes[at] == ' ') {
                at++;
            }
        }

        private static boolean isLetter(int sign) {
            return sign >= 'a' && sign <= 'z';
        }

        private static boolean isFigure(int sign) {
            return sign >= '0' && sign <= '9';
        }

        private void takeWord() {
            while (at < length && isLetter(bytes[at])) {
                at++;
            }
            token = WORD;
            if (isWord("hears")) {
                value = HEARS;
            } else if (isWord("one")) {
                value = ONE;
            } else if (isWord("dead")) {
                value = DEAD;
            } else {
                token = WRONG;
            }
        }

        private boolean isWord(String word) {
            if (at - tokenStart != word.length()) {
                return false;
            }
            for (int i = 0; i < word.length(); i++) {
                if (bytes[tokenStart + i] != word.charAt(i)) {
                    return false;
                }
            }
            return true;
        }

        private void takeNumber() {
            value = 0;
            while (at < length && isFigure(bytes[at])) {
                // Figures past the last that one number may have only make it wrong.
                if (at - tokenStart < MOST_FIGURES) {
                    value = 10 * value + bytes[at] - '0';
                }
                at++;
            }
            token = at - tokenStart <= MOST_FIGURES ? NUMBER : WRONG;
        }
    }
}
