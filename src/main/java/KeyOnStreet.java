/** A town with one key that opens all: who is shut out, and how the key goes from door to door. */
public final class KeyOnStreet {
    public static final int NONE = -1, UNKNOWN = -101, OUTSIDE = -102, STATE = -103, FULL = -104;

    private static final int HOUSES_LEAST = 3;
    private static final int HOUSES_MOST = 6;
    private static final int PLACES = 10;
    private static final int LAWS = 3;
    private static final int QUEUE = 0;
    private static final int NEAR = 1;
    private static final int LETTERS_MOST = 30;
    private static final int CODE_MOST = 126;
    private static final int MINUTE_MOST = 999;
    private static final int PASS_MOST = 30;
    private static final int SEEN_MOST = 6;
    private static final int HANGS_MOST = 30;
    private static final int NIGHTS_MOST = 60;
    private static final int FIRST_OF_ROUND = 10;
    private static final int ENDLESS = Integer.MAX_VALUE;

    private final Page page;
    private final Town street;
    private final Night now;
    private final Night kept;
    private final Night trial;
    private final Rounds rounds;
    private boolean hasImage;
    private int townsRead;
    private int hangsDone;
    private int guessMany;
    private int guessLeast;

    public KeyOnStreet() {
        page = new Page();
        street = new Town();
        now = new Night(street);
        kept = new Night(street);
        trial = new Night(street);
        rounds = new Rounds(street);
    }

    // ---- the town

    public int letter(int code) {
        if (code < 1 || code > CODE_MOST) {
            return OUTSIDE;
        }
        return page.write(code) ? page.length : FULL;
    }

    public int blank() {
        int had = page.length;
        page.length = 0;
        return had;
    }

    public int fault() {
        return page.firstFault();
    }

    public int town() {
        if (!page.tellsTown()) {
            return STATE;
        }
        street.readFrom(page);
        page.length = 0;
        now.begin();
        hasImage = false;
        townsRead++;
        return street.houses;
    }

    public int about(int house, int what) {
        if (!street.has(house)) {
            return UNKNOWN;
        }
        if (what < 0 || what > 7) {
            return OUTSIDE;
        }
        return toldOf(house, what);
    }

    public int as(int house, int kind) {
        if (!street.has(house)) {
            return UNKNOWN;
        }
        if (kind < 0 || kind > 4) {
            return OUTSIDE;
        }
        return isSuch(street.at(house), kind) ? house : NONE;
    }

    // ---- a night

    public int shut(int house, boolean is) {
        if (!street.has(house)) {
            return UNKNOWN;
        }
        boolean was = now.isOut(house);
        if (!is) {
            now.since[house] = NONE;
        } else if (!was) {
            now.since[house] = now.key.minute;
        }
        return was ? 1 : 0;
    }

    public int lay(int place) {
        if (place < 0 || place >= PLACES) {
            return OUTSIDE;
        }
        if (!hasTown()) {
            return STATE;
        }
        int was = now.key.place;
        now.key.put(place, now.key.minute, 0);
        return was;
    }

    public int pass(int minutes) {
        if (minutes < 1 || minutes > PASS_MOST) {
            return OUTSIDE;
        }
        if (!hasTown() || now.key.minute + minutes > MINUTE_MOST) {
            return STATE;
        }
        now.key.minute += minutes;
        return now.key.minute;
    }

    public int open(int house) {
        if (!street.has(house)) {
            return UNKNOWN;
        }
        if (!now.mayOpen(house)) {
            return STATE;
        }
        now.letIn(house);
        return now.key.minute;
    }

    public int night() {
        return hasTown() ? now.fall() : STATE;
    }

    // ---- what would be

    public int next(int law) {
        if (!isLaw(law)) {
            return OUTSIDE;
        }
        return hasTown() ? now.nextBy(law) : STATE;
    }

    public int by(int law, int what) {
        if (!isLaw(law) || what < 0 || what > 2) {
            return OUTSIDE;
        }
        if (!hasTown()) {
            return STATE;
        }
        goBy(law);
        return toldByLaw(what);
    }

    public int best(int what) {
        boolean asksHouse = what >= FIRST_OF_ROUND && what < FIRST_OF_ROUND + HOUSES_MOST;
        if (what != 0 && what != 1 && !asksHouse) {
            return OUTSIDE;
        }
        if (!hasTown()) {
            return STATE;
        }
        rounds.seekBest(now, now.key.place);
        return toldOfBest(what);
    }

    public int shortest() {
        return hasTown() ? rounds.seekShortest(now) : STATE;
    }

    public int hang() {
        if (!hasTown() || hangsDone >= HANGS_MOST) {
            return STATE;
        }
        hangsDone++;
        int least = ENDLESS;
        int hook = 0;
        for (int place = 0; place < PLACES; place++) {
            rounds.seekBest(now, place);
            if (rounds.bestLate < least) {
                least = rounds.bestLate;
                hook = place;
            }
        }
        return hook;
    }

    public int twoKeys() {
        return hasTown() ? rounds.seekWithTwoKeys(now) : STATE;
    }

    // ---- what was seen

    public int see(int house, int minute, boolean is) {
        if (!street.has(house)) {
            return UNKNOWN;
        }
        if (minute < 0 || minute > MINUTE_MOST) {
            return OUTSIDE;
        }
        return now.note(house, minute, is) ? now.seen : FULL;
    }

    public int forget() {
        int had = now.seen;
        now.seen = 0;
        return had;
    }

    public int guess(int what) {
        if (what < 0 || what > 1) {
            return OUTSIDE;
        }
        if (!hasTown()) {
            return STATE;
        }
        seekGuesses();
        return what == 0 ? guessMany : guessLeast;
    }

    public int nights(int nights, int seed, int what) {
        if (nights < 1 || nights > NIGHTS_MOST || seed < 0 || what < 0 || what > 2) {
            return OUTSIDE;
        }
        if (!hasTown()) {
            return STATE;
        }
        trial.begin();
        trial.key.place = now.key.place;
        int drawn = seed;
        for (int i = 0; i < nights; i++) {
            drawn = goThroughNight(drawn);
        }
        switch (what) {
            case 0:
                return trial.lateOfAll();
            case 1:
                return trial.key.place;
            default:
                return drawn;
        }
    }

    // ---- what is told of all

    public int image() {
        if (!hasTown()) {
            return STATE;
        }
        kept.copyFrom(now);
        hasImage = true;
        return now.key.minute;
    }

    public int restore() {
        if (!hasImage) {
            return STATE;
        }
        now.copyFrom(kept);
        return now.key.minute;
    }

    public int count(int what) {
        switch (what) {
            case 0:
                return street.houses;
            case 1:
                return now.outAtDoor();
            case 2:
                return now.key.place;
            case 3:
                return now.key.minute;
            case 4:
                return now.key.keptUntil;
            case 5:
                return now.lateOfAll();
            case 6:
                return now.outOfAll();
            case 7:
                return now.seen;
            case 8:
                return page.length;
            case 9:
                return townsRead;
            case 10:
                return hangsDone;
            default:
                return OUTSIDE;
        }
    }

    public long digest() {
        long h = 823;
        for (int house = 0; house < street.houses; house++) {
            for (int what = 0; what <= 7; what++) {
                h = 31 * h + toldOf(house, what);
            }
        }
        if (hasTown()) {
            h = withWhatWouldBe(h);
        }
        for (int i = 0; i < page.length; i++) {
            h = 31 * h + page.codeAt(i);
        }
        for (int what = 0; what <= 10; what++) {
            h = 31 * h + count(what);
        }
        return h;
    }

    private long withWhatWouldBe(long before) {
        long h = before;
        for (int law = 0; law < LAWS; law++) {
            h = 31 * h + now.nextBy(law);
            goBy(law);
            for (int what = 0; what <= 2; what++) {
                h = 31 * h + toldByLaw(what);
            }
        }
        rounds.seekBest(now, now.key.place);
        h = 31 * h + toldOfBest(0);
        h = 31 * h + toldOfBest(1);
        h = 31 * h + toldOfBest(FIRST_OF_ROUND);
        h = 31 * h + rounds.seekShortest(now);
        seekGuesses();
        h = 31 * h + guessMany;
        return 31 * h + guessLeast;
    }

    private boolean hasTown() {
        return street.houses > 0;
    }

    private static boolean isLaw(int law) {
        return law >= 0 && law < LAWS;
    }

    private static boolean isSuch(House house, int kind) {
        switch (kind) {
            case 1:
                return house instanceof Midwife;
            case 2:
                return house instanceof Inn;
            case 3:
                return house instanceof Widow;
            case 4:
                return house instanceof Lovers;
            default:
                return true;
        }
    }

    private int toldOf(int house, int what) {
        House it = street.at(house);
        switch (what) {
            case 0:
                return it.kind();
            case 1:
                return it.place;
            case 2:
                return it.latest;
            case 3:
                return it.people;
            case 4:
                return now.since[house];
            case 5:
                return now.inAt[house];
            case 6:
                return now.late[house];
            default:
                return now.sleptOut[house];
        }
    }

    private void goBy(int law) {
        trial.copyFrom(now);
        trial.letAllIn(law);
    }

    private int toldByLaw(int what) {
        switch (what) {
            // The copy began with what was late before, which is no part of this going.
            case 0:
                return trial.lateOfAll() - now.lateOfAll();
            case 1:
                return trial.key.minute;
            default:
                return trial.key.place;
        }
    }

    private int toldOfBest(int what) {
        switch (what) {
            case 0:
                return rounds.bestLate;
            case 1:
                return rounds.bestEnd;
            default:
                return rounds.bestHouse(what - FIRST_OF_ROUND);
        }
    }

    private void seekGuesses() {
        guessMany = 0;
        guessLeast = NONE;
        for (int one = 0; one < PLACES * LAWS; one++) {
            trial.copyFrom(now);
            trial.nobodyWasIn();
            trial.key.put(one / LAWS, 0, 0);
            trial.letAllIn(one % LAWS);
            if (trial.isAsSeen()) {
                guessMany++;
                guessLeast = guessLeast == NONE ? one : guessLeast;
            }
        }
    }

    /** One drawn night on the trial; answers the seed behind its draws. */
    private int goThroughNight(int before) {
        int seed = before;
        trial.key.put(trial.key.place, 0, 0);
        for (int house = 0; house < street.houses; house++) {
            seed = seedAfter(seed);
            trial.since[house] = drawOf(seed, 2) == 1 ? 0 : NONE;
        }
        seed = seedAfter(seed);
        trial.letAllIn(drawOf(seed, LAWS));
        return seed;
    }

    private static int seedAfter(int seed) {
        return (int) ((1103515245L * seed + 12345L) & 0x7fffffffL);
    }

    private static int drawOf(int seed, int sides) {
        return sides < 1 ? 0 : (seed / 65536) % sides;
    }

    /** An ordinary house; the kinds tell only what is otherwise with them. */
    private static class House {
        final int place;
        final int latest;
        final int people;

        House(int place, int latest, int people) {
            this.place = place;
            this.latest = latest;
            this.people = people;
        }

        int kind() {
            return 0;
        }

        int openingTakes() {
            return 1;
        }

        int keepsKeyUntil(int minuteIn) {
            return 0;
        }

        int lateAt(int minuteIn) {
            return Math.max(0, minuteIn - 4 * latest) * people;
        }

        int sleepersOut() {
            return people;
        }
    }

    private static final class Midwife extends House {
        Midwife(int place, int latest, int people) {
            super(place, latest, people);
        }

        int kind() {
            return 1;
        }
    }

    private static final class Inn extends House {
        Inn(int place, int latest, int people) {
            super(place, latest, people);
        }

        int kind() {
            return 2;
        }

        int lateAt(int minuteIn) {
            return 0;
        }

        int sleepersOut() {
            return 0;
        }
    }

    private static class Widow extends House {
        Widow(int place, int latest, int people) {
            super(place, latest, people);
        }

        int kind() {
            return 3;
        }

        int openingTakes() {
            return 0;
        }
    }

    private static final class Lovers extends Widow {
        Lovers(int place, int latest, int people) {
            super(place, latest, people);
        }

        int kind() {
            return 4;
        }

        int keepsKeyUntil(int minuteIn) {
            return minuteIn + 5;
        }
    }

    /** The letters that a town is read from. */
    private static final class Page {
        private static final String KINDS = "hmiwl";
        /** The letters of one house and the comma behind it. */
        private static final int STRIDE = 5;

        private final int[] codes = new int[LETTERS_MOST];
        int length;

        boolean write(int code) {
            if (length >= LETTERS_MOST) {
                return false;
            }
            codes[length] = code;
            length++;
            return true;
        }

        int codeAt(int index) {
            return index < 0 || index >= length ? 0 : codes[index];
        }

        int firstFault() {
            for (int i = 0; i < length; i++) {
                if (!fits(i, codes[i])) {
                    return i;
                }
            }
            return length;
        }

        private static boolean fits(int index, int code) {
            if (index >= HOUSES_MOST * STRIDE - 1) {
                return false;
            }
            switch (index % STRIDE) {
                case 0:
                    return KINDS.indexOf((char) code) >= 0;
                case 1:
                    return code >= '0' && code <= '9';
                case 4:
                    return code == ',';
                default:
                    return code >= '1' && code <= '9';
            }
        }

        boolean tellsTown() {
            boolean endsBehindHouse = length % STRIDE == STRIDE - 1;
            return endsBehindHouse && housesTold() >= HOUSES_LEAST && firstFault() == length;
        }

        int housesTold() {
            return (length + 1) / STRIDE;
        }

        House houseTold(int house) {
            int at = house * STRIDE;
            int place = digitAt(at + 1);
            int latest = digitAt(at + 2);
            int people = digitAt(at + 3);
            switch (codeAt(at)) {
                case 'm':
                    return new Midwife(place, latest, people);
                case 'i':
                    return new Inn(place, latest, people);
                case 'w':
                    return new Widow(place, latest, people);
                case 'l':
                    return new Lovers(place, latest, people);
                default:
                    return new House(place, latest, people);
            }
        }

        private int digitAt(int index) {
            return codeAt(index) - '0';
        }
    }

    /** The street's houses; none at first. */
    private static final class Town {
        private final House[] row = new House[HOUSES_MOST];
        /** Stands where no house does, so that nobody meets null. */
        private final House noHouse = new House(0, 1, 1);
        int houses;
        int midwives;

        void readFrom(Page page) {
            houses = Math.min(page.housesTold(), HOUSES_MOST);
            midwives = 0;
            for (int i = 0; i < HOUSES_MOST; i++) {
                House told = i < houses ? page.houseTold(i) : null;
                row[i] = told;
                if (told instanceof Midwife) {
                    midwives |= 1 << i;
                }
            }
        }

        boolean has(int house) {
            return house >= 0 && house < houses;
        }

        House at(int house) {
            House it = house < 0 || house >= HOUSES_MOST ? null : row[house];
            return it == null ? noHouse : it;
        }

        /** Of houses that are shut out, as bits, those that may be opened now. */
        int mayBeOpened(int waiting) {
            int ahead = waiting & midwives;
            return ahead != 0 ? ahead : waiting;
        }
    }

    /** The key, and the minute that it is where the key is. */
    private static final class Key {
        int place;
        int minute;
        int keptUntil;

        void put(int place, int minute, int keptUntil) {
            this.place = place;
            this.minute = minute;
            this.keptUntil = keptUntil;
        }

        void copyFrom(Key other) {
            put(other.place, other.minute, other.keptUntil);
        }

        void bringTo(House house) {
            int setsOut = Math.max(minute, keptUntil);
            int far = Math.abs(place - house.place);
            int minuteIn = setsOut + far + house.openingTakes();
            put(house.place, minuteIn, house.keepsKeyUntil(minuteIn));
        }
    }

    /** All that an image keeps; a copy of it serves to try what would be. */
    private static final class Night {
        private final Town street;
        final Key key = new Key();
        final int[] since = new int[HOUSES_MOST];
        final int[] inAt = new int[HOUSES_MOST];
        final int[] late = new int[HOUSES_MOST];
        final int[] sleptOut = new int[HOUSES_MOST];
        private final int[] seenHouse = new int[SEEN_MOST];
        private final int[] seenMinute = new int[SEEN_MOST];
        private final boolean[] seenIn = new boolean[SEEN_MOST];
        int seen;

        Night(Town street) {
            this.street = street;
            for (int i = 0; i < HOUSES_MOST; i++) {
                since[i] = NONE;
                inAt[i] = NONE;
            }
        }

        void begin() {
            for (int i = 0; i < HOUSES_MOST; i++) {
                since[i] = NONE;
                inAt[i] = NONE;
                late[i] = 0;
                sleptOut[i] = 0;
            }
            key.put(0, 0, 0);
            seen = 0;
        }

        void copyFrom(Night other) {
            for (int i = 0; i < HOUSES_MOST; i++) {
                since[i] = other.since[i];
                inAt[i] = other.inAt[i];
                late[i] = other.late[i];
                sleptOut[i] = other.sleptOut[i];
            }
            for (int i = 0; i < SEEN_MOST; i++) {
                seenHouse[i] = other.seenHouse[i];
                seenMinute[i] = other.seenMinute[i];
                seenIn[i] = other.seenIn[i];
            }
            seen = other.seen;
            key.copyFrom(other.key);
        }

        void nobodyWasIn() {
            for (int i = 0; i < HOUSES_MOST; i++) {
                inAt[i] = NONE;
            }
        }

        boolean isOut(int house) {
            return street.has(house) && since[house] != NONE;
        }

        /** Those that are shut out, as bits. */
        int waiting() {
            int bits = 0;
            for (int i = 0; i < HOUSES_MOST; i++) {
                if (since[i] != NONE) {
                    bits |= 1 << i;
                }
            }
            return bits;
        }

        int outAtDoor() {
            return Integer.bitCount(waiting());
        }

        boolean mayOpen(int house) {
            return isOut(house) && (street.mayBeOpened(waiting()) >> house & 1) == 1;
        }

        void letIn(int house) {
            if (!isOut(house)) {
                return;
            }
            House it = street.at(house);
            key.bringTo(it);
            since[house] = NONE;
            inAt[house] = key.minute;
            late[house] += it.lateAt(key.minute);
        }

        int fall() {
            int all = 0;
            for (int i = 0; i < street.houses; i++) {
                if (isOut(i)) {
                    int people = street.at(i).sleepersOut();
                    sleptOut[i] += people;
                    all += people;
                    since[i] = 0;
                }
            }
            key.put(key.place, 0, 0);
            return all;
        }

        int nextBy(int law) {
            int may = street.mayBeOpened(waiting());
            int found = NONE;
            int least = ENDLESS;
            for (int i = 0; i < street.houses; i++) {
                int rank = rankBy(law, i);
                if ((may >> i & 1) == 1 && rank < least) {
                    least = rank;
                    found = i;
                }
            }
            return found;
        }

        private int rankBy(int law, int house) {
            switch (law) {
                case QUEUE:
                    return since[house];
                case NEAR:
                    return Math.abs(key.place - street.at(house).place);
                default:
                    return street.at(house).latest;
            }
        }

        void letAllIn(int law) {
            for (int i = 0; i < HOUSES_MOST; i++) {
                int house = nextBy(law);
                if (house == NONE) {
                    return;
                }
                letIn(house);
            }
        }

        int lateOfAll() {
            int all = 0;
            for (int i = 0; i < HOUSES_MOST; i++) {
                all += late[i];
            }
            return all;
        }

        int outOfAll() {
            int all = 0;
            for (int i = 0; i < HOUSES_MOST; i++) {
                all += sleptOut[i];
            }
            return all;
        }

        boolean note(int house, int minute, boolean is) {
            if (seen >= SEEN_MOST) {
                return false;
            }
            seenHouse[seen] = house;
            seenMinute[seen] = minute;
            seenIn[seen] = is;
            seen++;
            return true;
        }

        boolean isAsSeen() {
            for (int i = 0; i < seen && i < SEEN_MOST; i++) {
                if (wasInBy(seenHouse[i], seenMinute[i]) != seenIn[i]) {
                    return false;
                }
            }
            return true;
        }

        private boolean wasInBy(int house, int minute) {
            return street.has(house) && inAt[house] != NONE && inAt[house] <= minute;
        }
    }

    /** Seeks the orders in which those that are shut out can be opened. */
    private static final class Rounds {
        private final Town street;
        /** The key at each depth of the search: behind so many openings. */
        private final Key[] keys = new Key[HOUSES_MOST + 1];
        private final int[] order = new int[HOUSES_MOST];
        private final int[] bestOrder = new int[HOUSES_MOST];
        private int bestLength;
        private boolean countsLate;
        private boolean midwivesFirst;
        int bestLate;
        int bestEnd;

        Rounds(Town street) {
            this.street = street;
            for (int i = 0; i <= HOUSES_MOST; i++) {
                keys[i] = new Key();
            }
        }

        void seekBest(Night night, int place) {
            countsLate = true;
            midwivesFirst = true;
            seek(night.waiting(), place, night.key);
        }

        int seekShortest(Night night) {
            countsLate = false;
            midwivesFirst = true;
            seek(night.waiting(), night.key.place, night.key);
            return bestEnd;
        }

        int seekWithTwoKeys(Night night) {
            countsLate = false;
            midwivesFirst = false;
            int all = night.waiting();
            int least = ENDLESS;
            for (int some = 0; some < 1 << HOUSES_MOST; some++) {
                int others = all & ~some;
                // The keys are alike, so of a split and its reverse one is enough.
                if ((some & all) == some && some <= others) {
                    seek(some, night.key.place, night.key);
                    int end = bestEnd;
                    seek(others, night.key.place, night.key);
                    least = Math.min(least, Math.max(end, bestEnd));
                }
            }
            return least;
        }

        int bestHouse(int index) {
            boolean known = index >= 0 && index < bestLength && index < HOUSES_MOST;
            return known ? bestOrder[index] : NONE;
        }

        private void seek(int waiting, int place, Key from) {
            bestLate = ENDLESS;
            bestEnd = ENDLESS;
            bestLength = 0;
            keys[0].put(place, from.minute, from.keptUntil);
            goOn(0, waiting, 0);
        }

        private void goOn(int depth, int waiting, int late) {
            // Neither what is late nor the minute ever falls, and a later round of like worth loses.
            if (depth < 0 || depth > HOUSES_MOST || !isBetter(late, keys[depth].minute)) {
                return;
            }
            if (waiting == 0) {
                keepRound(depth, late);
                return;
            }
            int may = midwivesFirst ? street.mayBeOpened(waiting) : waiting;
            for (int i = 0; i < street.houses; i++) {
                if ((may >> i & 1) == 1) {
                    openThenGoOn(i, depth, waiting, late);
                }
            }
        }

        private void openThenGoOn(int house, int depth, int waiting, int late) {
            if (depth < 0 || depth >= HOUSES_MOST) {
                return;
            }
            House it = street.at(house);
            Key key = keys[depth + 1];
            key.copyFrom(keys[depth]);
            key.bringTo(it);
            order[depth] = house;
            int more = countsLate ? it.lateAt(key.minute) : 0;
            goOn(depth + 1, waiting & ~(1 << house), late + more);
        }

        private boolean isBetter(int late, int end) {
            return late < bestLate || late == bestLate && end < bestEnd;
        }

        private void keepRound(int length, int late) {
            bestLate = late;
            bestEnd = keys[length].minute;
            bestLength = length;
            for (int i = 0; i < length && i < HOUSES_MOST; i++) {
                bestOrder[i] = order[i];
            }
        }
    }
}
