import java.util.Arrays;

/** Dance nights in a hall. What each call promises stands in the document, ../shared/DOC.md. */
public final class DanceHall {
    public static final int NONE = -1;

    private static final int MAX_GUESTS = 8;
    private static final int MAX_TOKENS = 99;
    private static final int MAX_SIZE = 9;
    private static final int MAX_PAIRS = 9;
    private static final int MAX_LAMPS = 6;
    private static final int MAX_OIL = 999;
    private static final int OIL_PER_LAMP = 2;
    private static final int COUPLES_PER_LAMP = 2;
    private static final int MAX_FIDDLERS = 4;
    private static final int MAX_PART = 9;
    private static final int MAX_DANCES = 30;
    private static final int MAX_TEXT = 100;
    private static final int MAX_BYTE = 127;
    private static final int MAX_SAVED = 4;
    private static final int ALL_FOLLOWERS = (1 << MAX_GUESTS) - 1;
    private static final int NO_SIZE = 0;
    private static final int GUEST_FACTS = 8;
    private static final int VALUES = 14;
    private static final int FIDDLER_FACTS = 3;
    private static final int SYNTAX_ERROR = -10;

    private final State hall;
    // What-if questions and the guests of a text are worked out here, so that the hall stays as it is.
    private final State trial;
    private final Floor floor;
    private final GuestList text;
    private final State[] saved;
    private int savedCount;

    public DanceHall() {
        hall = new State();
        trial = new State();
        floor = new Floor();
        text = new GuestList();
        saved = new State[MAX_SAVED];
        for (int i = 0; i < MAX_SAVED; i++) {
            saved[i] = new State();
        }
    }

    // ---- hall

    public int addGuest(boolean leads, int tokens, int size, boolean shoes)
            throws IllegalArgumentException, IllegalStateException {
        needArgument(isWithin(tokens, 0, MAX_TOKENS) && isWithin(size, 1, MAX_SIZE));
        needState(!hall.side(leads).isFull());
        saveState();
        return hall.side(leads).add(tokens, size, shoes);
    }

    public int giveTokens(boolean leads, int guest, int tokens)
            throws IndexOutOfBoundsException, IllegalArgumentException, IllegalStateException {
        Guests side = hall.side(leads);
        needIndex(side.has(guest));
        needArgument(isWithin(tokens, -MAX_TOKENS, MAX_TOKENS));
        int sum = side.tokens[guest] + tokens;
        needState(isWithin(sum, 0, MAX_TOKENS));
        saveState();
        side.tokens[guest] = sum;
        return sum;
    }

    public int setHere(boolean leads, int guest, boolean here) throws IndexOutOfBoundsException {
        Guests side = hall.side(leads);
        needIndex(side.has(guest));
        saveState();
        int before = oneIf(side.here[guest]);
        side.here[guest] = here;
        return before;
    }

    public int setShoes(int size, int pairs) throws IndexOutOfBoundsException, IllegalArgumentException {
        needIndex(isWithin(size, 1, MAX_SIZE));
        needArgument(isWithin(pairs, 0, MAX_PAIRS));
        saveState();
        int before = hall.pairs[size];
        hall.pairs[size] = pairs;
        return before;
    }

    public int setLamps(int lamps, int oil) throws IllegalArgumentException {
        needArgument(isWithin(lamps, 1, MAX_LAMPS) && isWithin(oil, 0, MAX_OIL));
        saveState();
        int before = hall.oil;
        hall.lamps = lamps;
        hall.oil = oil;
        return before;
    }

    public int setFiddlers(int fiddlers) throws IllegalArgumentException {
        needArgument(isWithin(fiddlers, 1, MAX_FIDDLERS));
        saveState();
        int before = hall.fiddlers;
        hall.fiddlers = fiddlers;
        Arrays.fill(hall.parts, 1);
        return before;
    }

    public int setPart(int fiddler, int part) throws IndexOutOfBoundsException, IllegalArgumentException {
        needIndex(hall.hasFiddler(fiddler));
        needArgument(isWithin(part, 1, MAX_PART));
        saveState();
        int before = hall.parts[fiddler];
        hall.parts[fiddler] = part;
        return before;
    }

    public int dance() throws IllegalStateException {
        needState(hall.isDancePossible());
        saveState();
        return hall.playDance(floor);
    }

    public int danceOn() {
        saveState();
        return hall.playOn(floor);
    }

    public int endNight() {
        saveState();
        return hall.closeNight();
    }

    public int guest(boolean leads, int guest, int what)
            throws IndexOutOfBoundsException, IllegalArgumentException {
        needIndex(hall.side(leads).has(guest));
        needArgument(isWithin(what, 0, GUEST_FACTS - 1));
        floor.lendShoes(hall, NO_SIZE);
        return guestFact(leads, guest, what);
    }

    public int value(int what) throws IllegalArgumentException {
        needArgument(isWithin(what, 0, VALUES - 1));
        return hall.number(what);
    }

    public int shoes(int size, boolean left) throws IndexOutOfBoundsException {
        needIndex(isWithin(size, 1, MAX_SIZE));
        floor.lendShoes(hall, NO_SIZE);
        return left ? floor.left[size] : hall.pairs[size];
    }

    public int fiddler(int fiddler, int what) throws IndexOutOfBoundsException, IllegalArgumentException {
        needIndex(hall.hasFiddler(fiddler));
        needArgument(isWithin(what, 0, FIDDLER_FACTS - 1));
        return hall.fiddlerFact(fiddler, what);
    }

    public int danced(int leader, int follower) throws IndexOutOfBoundsException {
        needIndex(hall.leaders.has(leader) && hall.followers.has(follower));
        return hall.danceOf[leader][follower];
    }

    public int partner(int dance, int leader) throws IndexOutOfBoundsException {
        needIndex(isWithin(dance, 0, hall.dances - 1) && hall.leaders.has(leader));
        return hall.followerIn(dance, leader);
    }

    // ---- what if

    public int next(int leader) throws IndexOutOfBoundsException {
        needIndex(hall.leaders.has(leader));
        floor.pairUp(hall, hall.room());
        return floor.follower[leader];
    }

    public int couplesWith(int lamps) throws IllegalArgumentException {
        needArgument(isWithin(lamps, 1, MAX_LAMPS));
        return floor.pairUp(hall, COUPLES_PER_LAMP * hall.litOf(lamps));
    }

    public int dancesLeft() {
        trial.copyFrom(hall);
        return trial.playOn(floor);
    }

    public int bestSize() {
        floor.lendShoes(hall, NO_SIZE);
        int most = floor.readyCount();
        int best = NONE;
        for (int size = 1; size <= MAX_SIZE; size++) {
            floor.lendShoes(hall, size);
            if (floor.readyCount() > most) {
                most = floor.readyCount();
                best = size;
            }
        }
        return best;
    }

    public double share() {
        int pairs = hall.leaders.count * hall.followers.count;
        return pairs > 0 ? (double) hall.couplesTonight() / (double) pairs : 0.0;
    }

    // ---- text

    public int append(int value) throws IllegalArgumentException, IllegalStateException {
        needArgument(isWithin(value, 0, MAX_BYTE));
        needState(text.length < MAX_TEXT);
        return text.put(value);
    }

    public int clearText() {
        int before = text.length;
        text.length = 0;
        return before;
    }

    public int parse() {
        int error = text.readGuests(trial.leaders, trial.followers);
        if (error != NONE) {
            return SYNTAX_ERROR - error;
        }
        saveState();
        hall.leaders.copyFrom(trial.leaders);
        hall.followers.copyFrom(trial.followers);
        hall.forgetDances();
        return hall.leaders.count + hall.followers.count;
    }

    // ---- state

    public int undo() throws IllegalStateException {
        needState(savedCount > 0);
        savedCount--;
        hall.copyFrom(saved[savedCount]);
        return savedCount;
    }

    public long digest() {
        floor.pairUp(hall, hall.room());
        long h = mix(3527, text.length);
        for (int what = 0; what < VALUES; what++) {
            h = mix(h, hall.number(what));
        }
        for (int size = 1; size <= MAX_SIZE; size++) {
            h = mix(h, hall.pairs[size]);
            h = mix(h, floor.left[size]);
        }
        h = mixGuests(h, true);
        h = mixGuests(h, false);
        h = mixBook(h);
        for (int fiddler = 0; fiddler < hall.fiddlers; fiddler++) {
            for (int what = 0; what < FIDDLER_FACTS; what++) {
                h = mix(h, hall.fiddlerFact(fiddler, what));
            }
        }
        return mix(h, savedCount);
    }

    private static long mix(long h, int v) {
        return 31 * h + v;
    }

    /** Counts on shoes that have been lent on the floor. */
    private long mixGuests(long before, boolean leads) {
        long h = before;
        int count = hall.side(leads).count;
        for (int guest = 0; guest < count; guest++) {
            for (int what = 0; what < GUEST_FACTS; what++) {
                h = mix(h, guestFact(leads, guest, what));
            }
        }
        return h;
    }

    /** Counts on couples that have been found on the floor. */
    private long mixBook(long before) {
        long h = before;
        for (int leader = 0; leader < hall.leaders.count; leader++) {
            for (int follower = 0; follower < hall.followers.count; follower++) {
                h = mix(h, hall.danceOf[leader][follower]);
            }
            h = mix(h, floor.follower[leader]);
        }
        return h;
    }

    /** Counts on shoes that have been lent on the floor. */
    private int guestFact(boolean leads, int guest, int what) {
        Guests side = hall.side(leads);
        switch (what) {
            case 0:
                return side.tokens[guest];
            case 1:
                return side.sizes[guest];
            case 2:
                return oneIf(side.ownShoes[guest]);
            case 3:
                return oneIf(side.here[guest]);
            case 4:
                return oneIf(floor.isReady(leads, guest));
            case 5:
                return floor.lentTo(leads, guest);
            case 6:
                return leads ? hall.dancesOfLeader(guest) : hall.dancesOfFollower(guest);
            default:
                return side.allDances[guest];
        }
    }

    /** Saves the state from before a call; the oldest one gives its place when all are taken. */
    private void saveState() {
        if (savedCount == MAX_SAVED) {
            State oldest = saved[0];
            for (int i = 1; i < MAX_SAVED; i++) {
                saved[i - 1] = saved[i];
            }
            saved[MAX_SAVED - 1] = oldest;
            savedCount--;
        }
        saved[savedCount].copyFrom(hall);
        savedCount++;
    }

    private static boolean isWithin(int number, int least, int most) {
        return least <= number && number <= most;
    }

    private static int oneIf(boolean fact) {
        return fact ? 1 : 0;
    }

    private static void needIndex(boolean holds) {
        if (!holds) {
            throw new IndexOutOfBoundsException("there is no such thing");
        }
    }

    private static void needArgument(boolean holds) {
        if (!holds) {
            throw new IllegalArgumentException("a number is out of range");
        }
    }

    private static void needState(boolean holds) {
        if (!holds) {
            throw new IllegalStateException("the state does not allow it");
        }
    }

    /** The leaders, or the followers. */
    private static final class Guests {
        final int[] tokens = new int[MAX_GUESTS];
        final int[] sizes = new int[MAX_GUESTS];
        final boolean[] ownShoes = new boolean[MAX_GUESTS];
        final boolean[] here = new boolean[MAX_GUESTS];
        final int[] allDances = new int[MAX_GUESTS];
        int count;

        boolean has(int guest) {
            return 0 <= guest && guest < count;
        }

        boolean isFull() {
            return count >= MAX_GUESTS;
        }

        int add(int guestTokens, int size, boolean shoes) {
            if (isFull()) {
                return NONE;
            }
            int guest = count;
            tokens[guest] = guestTokens;
            sizes[guest] = size;
            ownShoes[guest] = shoes;
            here[guest] = true;
            allDances[guest] = 0;
            count++;
            return guest;
        }

        void bookDance(int guest) {
            tokens[guest]--;
            allDances[guest]++;
        }

        void callBack() {
            for (int guest = 0; guest < count; guest++) {
                here[guest] = true;
            }
        }

        void copyFrom(Guests other) {
            count = other.count;
            for (int guest = 0; guest < MAX_GUESTS; guest++) {
                tokens[guest] = other.tokens[guest];
                sizes[guest] = other.sizes[guest];
                ownShoes[guest] = other.ownShoes[guest];
                here[guest] = other.here[guest];
                allDances[guest] = other.allDances[guest];
            }
        }
    }

    /** All that undo brings back. */
    private static final class State {
        final Guests leaders = new Guests();
        final Guests followers = new Guests();
        final int[] pairs = new int[MAX_SIZE + 1];
        int lamps = 3;
        int oil = 60;
        int burned;
        int fiddlers = 2;
        final int[] parts = new int[MAX_FIDDLERS];
        final int[] got = new int[MAX_FIDDLERS];
        int bag;
        int night;
        int dances;
        int allCouples;
        // A couple dances once a night at most, so this table is the whole book of the night.
        final int[][] danceOf = new int[MAX_GUESTS][MAX_GUESTS];

        State() {
            Arrays.fill(pairs, 1);
            Arrays.fill(parts, 1);
            for (int leader = 0; leader < MAX_GUESTS; leader++) {
                Arrays.fill(danceOf[leader], NONE);
            }
        }

        Guests side(boolean leads) {
            return leads ? leaders : followers;
        }

        boolean hasFiddler(int fiddler) {
            return 0 <= fiddler && fiddler < fiddlers;
        }

        int litOf(int lampCount) {
            return Math.min(lampCount, oil / OIL_PER_LAMP);
        }

        int room() {
            return COUPLES_PER_LAMP * litOf(lamps);
        }

        boolean isDancePossible() {
            return litOf(lamps) > 0 && dances < MAX_DANCES;
        }

        int playDance(Floor floor) {
            int couples = floor.pairUp(this, room());
            for (int leader = 0; leader < MAX_GUESTS; leader++) {
                if (floor.follower[leader] != NONE) {
                    bookCouple(leader, floor.follower[leader]);
                }
            }
            int burning = OIL_PER_LAMP * litOf(lamps);
            oil -= burning;
            burned += burning;
            dances++;
            return couples;
        }

        private void bookCouple(int leader, int follower) {
            danceOf[leader][follower] = dances;
            leaders.bookDance(leader);
            followers.bookDance(follower);
            bag += 2;
            allCouples++;
        }

        int playOn(Floor floor) {
            int played = 0;
            int couples = 1;
            while (couples > 0 && played < MAX_DANCES && isDancePossible()) {
                couples = playDance(floor);
                played++;
            }
            return played;
        }

        int closeNight() {
            int shared = bag;
            for (int fiddler = 0; fiddler < fiddlers; fiddler++) {
                got[fiddler] += cutOf(fiddler);
            }
            bag = 0;
            leaders.callBack();
            followers.callBack();
            forgetDances();
            night++;
            return shared;
        }

        void forgetDances() {
            dances = 0;
            for (int leader = 0; leader < MAX_GUESTS; leader++) {
                Arrays.fill(danceOf[leader], NONE);
            }
        }

        /** What a fiddler would get of the bag. */
        private int cutOf(int fiddler) {
            if (fiddler != 0) {
                return plainCutOf(fiddler);
            }
            int rest = bag;
            for (int other = 1; other < fiddlers; other++) {
                rest -= plainCutOf(other);
            }
            return rest;
        }

        private int plainCutOf(int fiddler) {
            int sum = partsSum();
            return sum > 0 ? bag * parts[fiddler] / sum : 0;
        }

        private int partsSum() {
            int sum = 0;
            for (int fiddler = 0; fiddler < fiddlers; fiddler++) {
                sum += parts[fiddler];
            }
            return sum;
        }

        int fiddlerFact(int fiddler, int what) {
            switch (what) {
                case 0:
                    return parts[fiddler];
                case 1:
                    return got[fiddler];
                default:
                    return cutOf(fiddler);
            }
        }

        int followerIn(int dance, int leader) {
            for (int follower = 0; follower < MAX_GUESTS; follower++) {
                if (danceOf[leader][follower] == dance) {
                    return follower;
                }
            }
            return NONE;
        }

        int dancesOfLeader(int leader) {
            int sum = 0;
            for (int follower = 0; follower < MAX_GUESTS; follower++) {
                sum += oneIf(danceOf[leader][follower] != NONE);
            }
            return sum;
        }

        int dancesOfFollower(int follower) {
            int sum = 0;
            for (int leader = 0; leader < MAX_GUESTS; leader++) {
                sum += oneIf(danceOf[leader][follower] != NONE);
            }
            return sum;
        }

        int couplesTonight() {
            int sum = 0;
            for (int leader = 0; leader < MAX_GUESTS; leader++) {
                sum += dancesOfLeader(leader);
            }
            return sum;
        }

        int number(int what) {
            switch (what) {
                case 0:
                    return leaders.count;
                case 1:
                    return followers.count;
                case 2:
                    return lamps;
                case 3:
                    return oil;
                case 4:
                    return litOf(lamps);
                case 5:
                    return room();
                case 6:
                    return night;
                case 7:
                    return dances;
                case 8:
                    return couplesTonight();
                case 9:
                    return bag;
                case 10:
                    return fiddlers;
                case 11:
                    return partsSum();
                case 12:
                    return allCouples;
                default:
                    return burned;
            }
        }

        void copyFrom(State other) {
            leaders.copyFrom(other.leaders);
            followers.copyFrom(other.followers);
            System.arraycopy(other.pairs, 0, pairs, 0, MAX_SIZE + 1);
            lamps = other.lamps;
            oil = other.oil;
            burned = other.burned;
            fiddlers = other.fiddlers;
            System.arraycopy(other.parts, 0, parts, 0, MAX_FIDDLERS);
            System.arraycopy(other.got, 0, got, 0, MAX_FIDDLERS);
            bag = other.bag;
            night = other.night;
            dances = other.dances;
            allCouples = other.allCouples;
            for (int leader = 0; leader < MAX_GUESTS; leader++) {
                System.arraycopy(other.danceOf[leader], 0, danceOf[leader], 0, MAX_GUESTS);
            }
        }
    }

    /** What a dance would be now: the shoes that are lent, and the couples. Made once, filled for each question. */
    private static final class Floor {
        final int[] left = new int[MAX_SIZE + 1];
        final int[] follower = new int[MAX_GUESTS];
        private final int[] lentToLeaders = new int[MAX_GUESTS];
        private final int[] lentToFollowers = new int[MAX_GUESTS];
        // A bit for each guest who can dance.
        private int readyLeaders;
        private int readyFollowers;
        // For each leader a bit for each follower with whom it may dance.
        private final int[] may = new int[MAX_GUESTS];
        // The leader whom each follower holds in the search for the most couples.
        private final int[] leaderOf = new int[MAX_GUESTS];
        // A bit for each follower whom the search for one leader has not tried yet.
        private int untried;

        /** Lends for a dance, as if there were one more pair of a size, or none more for NO_SIZE. */
        void lendShoes(State state, int oneMoreOf) {
            for (int size = 1; size <= MAX_SIZE; size++) {
                left[size] = state.pairs[size] + oneIf(size == oneMoreOf);
            }
            readyLeaders = lendTo(state.leaders, lentToLeaders);
            readyFollowers = lendTo(state.followers, lentToFollowers);
        }

        private int lendTo(Guests guests, int[] lent) {
            int ready = 0;
            for (int guest = 0; guest < guests.count; guest++) {
                boolean wants = guests.here[guest] && guests.tokens[guest] > 0;
                boolean owns = guests.ownShoes[guest];
                lent[guest] = wants && !owns ? lendPair(guests.sizes[guest]) : NO_SIZE;
                if (wants && (owns || lent[guest] != NO_SIZE)) {
                    ready |= 1 << guest;
                }
            }
            return ready;
        }

        private int lendPair(int size) {
            int fitting = left[size] > 0 ? size : size + 1;
            if (fitting > MAX_SIZE || left[fitting] == 0) {
                return NO_SIZE;
            }
            left[fitting]--;
            return fitting;
        }

        int lentTo(boolean leads, int guest) {
            return leads ? lentToLeaders[guest] : lentToFollowers[guest];
        }

        boolean isReady(boolean leads, int guest) {
            return ((leads ? readyLeaders : readyFollowers) >> guest & 1) != 0;
        }

        int readyCount() {
            return Integer.bitCount(readyLeaders) + Integer.bitCount(readyFollowers);
        }

        /** Lends the shoes and finds the first of the ways to dance; answers the number of couples. */
        int pairUp(State state, int room) {
            lendShoes(state, NO_SIZE);
            for (int leader = 0; leader < MAX_GUESTS; leader++) {
                may[leader] = isReady(true, leader) ? newFollowers(state.danceOf[leader]) : 0;
            }
            int couples = mostCouples(0, ALL_FOLLOWERS, room);
            int due = couples;
            int free = ALL_FOLLOWERS;
            for (int leader = 0; leader < MAX_GUESTS; leader++) {
                int chosen = due > 0 ? firstFollower(leader, free, due) : NONE;
                follower[leader] = chosen;
                if (chosen != NONE) {
                    free &= ~(1 << chosen);
                    due--;
                }
            }
            return couples;
        }

        private int newFollowers(int[] dances) {
            int bits = 0;
            for (int guest = 0; guest < MAX_GUESTS; guest++) {
                if (isReady(false, guest) && dances[guest] == NONE) {
                    bits |= 1 << guest;
                }
            }
            return bits;
        }

        /** The lowest follower with whom the leader lets those behind it still make up the couples that are due. */
        private int firstFollower(int leader, int free, int due) {
            for (int guest = 0; guest < MAX_GUESTS; guest++) {
                int bit = 1 << guest;
                if ((may[leader] & free & bit) != 0
                        && mostCouples(leader + 1, free & ~bit, due - 1) == due - 1) {
                    return guest;
                }
            }
            return NONE;
        }

        /** The most couples of the leaders from one on with free followers, counted up to what is enough. */
        private int mostCouples(int from, int free, int enough) {
            Arrays.fill(leaderOf, NONE);
            int couples = 0;
            for (int leader = from; leader < MAX_GUESTS && couples < enough; leader++) {
                untried = free;
                couples += oneIf(place(this, leader, 0));
            }
            return couples;
        }

        /** Finds a follower for a leader; leaders who hold one move on to another if they can. */
        private static boolean place(Floor floor, int leader, int depth) {
            if (depth >= MAX_GUESTS) {
                return false;
            }
            for (int guest = 0; guest < MAX_GUESTS; guest++) {
                int bit = 1 << guest;
                if ((floor.may[leader] & floor.untried & bit) != 0) {
                    floor.untried &= ~bit;
                    int holder = floor.leaderOf[guest];
                    if (holder == NONE || place(floor, holder, depth + 1)) {
                        floor.leaderOf[guest] = leader;
                        return true;
                    }
                }
            }
            return false;
        }
    }

    /** The text, and how guests are read from it. */
    private static final class GuestList {
        private final byte[] bytes = new byte[MAX_TEXT];
        int length;
        private int at;

        int put(int value) {
            if (length < MAX_TEXT) {
                bytes[length] = (byte) value;
                length++;
            }
            return length;
        }

        /** Makes the guests those of the text; answers the syntax error position, or NONE. */
        int readGuests(Guests leaders, Guests followers) {
            leaders.count = 0;
            followers.count = 0;
            at = 0;
            for (int guests = 0; guests < MAX_TEXT && at < length; guests++) {
                if (!readGuest(leaders, followers)) {
                    return at;
                }
            }
            return NONE;
        }

        /** Where it answers false, it stands at the byte that cannot stand there, or at the end. */
        private boolean readGuest(Guests leaders, Guests followers) {
            Guests side = isAt('l') ? leaders : followers;
            if (side.isFull() || !(skip('l') || skip('f'))) {
                return false;
            }
            int tokens = readTokens();
            if (tokens == NONE || !skip(',')) {
                return false;
            }
            int size = readDigit(1);
            if (size == NONE) {
                return false;
            }
            boolean ownShoes = !skip('-');
            if (!skip(';')) {
                return false;
            }
            side.add(tokens, size, ownShoes);
            return true;
        }

        private int readTokens() {
            int first = readDigit(0);
            if (first == NONE) {
                return NONE;
            }
            int second = readDigit(0);
            return second == NONE ? first : 10 * first + second;
        }

        private int readDigit(int least) {
            int digit = at < length ? bytes[at] - '0' : NONE;
            if (digit < least || digit > 9) {
                return NONE;
            }
            at++;
            return digit;
        }

        private boolean isAt(char sign) {
            return at < length && bytes[at] == sign;
        }

        private boolean skip(char sign) {
            if (!isAt(sign)) {
                return false;
            }
            at++;
            return true;
        }
    }
}
