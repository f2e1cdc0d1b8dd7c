import java.util.Arrays;

/** Simulates who may see that whom is there. The face comes first, the classes that carry it follow. */
public final class PresenceGrants {
    public static final int NONE = -1;

    private static final int USERS = 6;
    private static final int SEATS = 3;
    private static final int MOODS = 5;
    private static final int LOWEST_RANK = -9;
    private static final int HIGHEST_RANK = 9;

    private static final int SEES = 1;
    private static final int SEEN = 2;
    private static final int ASKED = 4;
    private static final int ASKING = 8;

    private static final int ASK = 0;
    private static final int GRANT = 1;
    private static final int STOP = 2;
    private static final int REFUSE = 3;
    private static final int HERE = 4;
    private static final int GONE = 5;
    private static final int PROBE = 6;
    private static final int KINDS = 7;

    private static final int ROOM = 300;
    private static final int MESSAGE_PARTS = 5;
    private static final int SENT = 0;
    private static final int ARRIVED = 1;
    private static final int LOST = 2;
    private static final int COUNTS = 3;
    private static final int MOST_ARRIVALS = 1000;

    private static final int MORE_THAN_ALL_PAIRS = USERS * USERS;

    private static final int SEAT_VALUES = 3;

    private static final int MOST_TEXT = 100;
    private static final int MOST_BYTE = 127;
    private static final int ORDER_LENGTH = 4;
    private static final int SYNTAX_ERROR = -10;
    private static final int ORDER_FAILED = -1000;

    private static final int MOST_SAVED = 4;
    private static final long HASH_START = 3191;
    private static final long HASH_FACTOR = 31;

    private final World now;
    // All that is only tried happens here, so that no call needs a new world.
    private final World trial;
    private final World[] saved;
    private final Script script;
    private int savedCount;

    public PresenceGrants() {
        now = new World();
        trial = new World();
        script = new Script();
        saved = new World[MOST_SAVED];
        for (int i = 0; i < MOST_SAVED; i++) {
            saved[i] = new World();
        }
    }

    // ---- asks and grants

    public int ask(int user, int other) throws IndexOutOfBoundsException, IllegalArgumentException {
        checkPair(user, other);
        saveState();
        return now.askFor(user, other);
    }

    public int grant(int user, int other) throws IndexOutOfBoundsException, IllegalArgumentException {
        checkPair(user, other);
        saveState();
        return now.grantTo(user, other);
    }

    public int refuse(int user, int other) throws IndexOutOfBoundsException, IllegalArgumentException {
        checkPair(user, other);
        saveState();
        return now.refuseTo(user, other);
    }

    public int stop(int user, int other) throws IndexOutOfBoundsException, IllegalArgumentException {
        checkPair(user, other);
        saveState();
        return now.stopSeeing(user, other);
    }

    public int block(int user, int other, boolean blocked)
            throws IndexOutOfBoundsException, IllegalArgumentException {
        checkPair(user, other);
        saveState();
        return now.changeBlock(user, other, blocked);
    }

    // ---- seats

    public int turnOn(int user, int seat, int rank, int mood)
            throws IndexOutOfBoundsException, IllegalArgumentException {
        checkSeat(user, seat);
        if (rank < LOWEST_RANK || rank > HIGHEST_RANK || mood < 0 || mood >= MOODS) {
            throw new IllegalArgumentException("rank or mood is out of range");
        }
        saveState();
        return now.switchOn(user, seat, rank, mood);
    }

    public int turnOff(int user, int seat) throws IndexOutOfBoundsException, IllegalStateException {
        checkSeat(user, seat);
        if (!now.seats.isOn(user, seat)) {
            throw new IllegalStateException("the seat is off");
        }
        saveState();
        return now.switchOff(user, seat);
    }

    public int bestSeat(int user) throws IndexOutOfBoundsException {
        checkUser(user);
        return now.seats.best(user);
    }

    public int seat(int user, int seat, int what) throws IndexOutOfBoundsException, IllegalArgumentException {
        checkSeat(user, seat);
        checkWhat(what, SEAT_VALUES);
        return now.seats.value(user, seat, what);
    }

    // ---- messages

    public int deliver(int count) throws IllegalArgumentException {
        if (count < 0 || count > MOST_ARRIVALS) {
            throw new IllegalArgumentException("count is out of range");
        }
        saveState();
        return now.letArrive(count);
    }

    public int lose(int index) throws IndexOutOfBoundsException {
        checkMessage(index);
        saveState();
        return Post.part(now.post.loseAt(index), 0);
    }

    public int underWay() {
        return now.post.size;
    }

    public int message(int index, int what) throws IndexOutOfBoundsException, IllegalArgumentException {
        checkMessage(index);
        checkWhat(what, MESSAGE_PARTS);
        return Post.part(now.post.messageAt(index), what);
    }

    public int count(int what) throws IllegalArgumentException {
        checkWhat(what, COUNTS);
        return now.post.counts[what];
    }

    // ---- rosters and views

    public int entry(int user, int other) throws IndexOutOfBoundsException, IllegalArgumentException {
        checkPair(user, other);
        return now.rosters.state(user, other);
    }

    public int version(int user, int other) throws IndexOutOfBoundsException, IllegalArgumentException {
        checkUser(user);
        if (other == NONE) {
            return now.rosters.rosterVersion(user);
        }
        checkPair(user, other);
        return now.rosters.entryVersion(user, other);
    }

    public int changedSince(int user, int version) throws IndexOutOfBoundsException, IllegalArgumentException {
        checkUser(user);
        if (version < 0) {
            throw new IllegalArgumentException("version is negative");
        }
        return now.rosters.changedAfter(user, version);
    }

    public int view(int user, int other, int seat) throws IndexOutOfBoundsException, IllegalArgumentException {
        checkSeat(user, seat);
        checkPair(user, other);
        return now.views.mood(user, other, seat);
    }

    public boolean areApart(int user, int other) throws IndexOutOfBoundsException, IllegalArgumentException {
        checkPair(user, other);
        return now.apart(user, other);
    }

    public boolean agree(int user, int other) throws IndexOutOfBoundsException, IllegalArgumentException {
        checkPair(user, other);
        return now.rosters.match(user, other);
    }

    public int agreeing() {
        return now.rosters.matchingPairs();
    }

    public int wrongViews(int user) throws IndexOutOfBoundsException {
        checkUser(user);
        return now.wrongViewsOf(user);
    }

    // ---- what if

    public int untilRest() {
        trial.copyFrom(now);
        int arrived = trial.letArrive(MOST_ARRIVALS);
        return trial.post.size == 0 ? arrived : NONE;
    }

    public int agreeingAtRest() {
        trial.copyFrom(now);
        return trial.matchingPairsAtRest();
    }

    public int mostNeeded() {
        trial.copyFrom(now);
        int pairsWithAll = trial.matchingPairsAtRest();
        int needed = NONE;
        int least = MORE_THAN_ALL_PAIRS;
        int size = now.post.size;
        for (int index = 0; index < size; index++) {
            int pairs = pairsWithAll;
            // Here and gone change no marks, nor does the room that they take: what an arriving message sends
            // first finds the room that it left, and only that can be a grant or a refuse.
            if (!now.post.isOfSeat(index)) {
                trial.copyFrom(now);
                trial.post.loseAt(index);
                pairs = trial.matchingPairsAtRest();
            }
            if (pairs == NONE) {
                return NONE;
            }
            if (pairs < least) {
                least = pairs;
                needed = index;
            }
        }
        return needed;
    }

    public double visible() {
        return (double) now.views.seeingPairs() / 30.0;
    }

    // ---- text

    public int append(int value) throws IllegalArgumentException, IllegalStateException {
        if (value < 0 || value > MOST_BYTE) {
            throw new IllegalArgumentException("value is out of range");
        }
        if (script.length >= MOST_TEXT) {
            throw new IllegalStateException("the text is full");
        }
        return script.add((byte) value);
    }

    public int clearText() {
        int length = script.length;
        script.length = 0;
        return length;
    }

    public int carryOut() {
        int error = script.errorPosition();
        if (error != NONE) {
            return SYNTAX_ERROR - error;
        }
        trial.copyFrom(now);
        int orders = script.orders();
        for (int order = 0; order < orders; order++) {
            if (!tryOrder(order)) {
                return ORDER_FAILED - order;
            }
        }
        saveState();
        now.copyFrom(trial);
        return orders;
    }

    // ---- state

    public int undo() throws IllegalStateException {
        if (savedCount < 1) {
            throw new IllegalStateException("there is no saved state");
        }
        savedCount--;
        now.copyFrom(saved[savedCount]);
        return savedCount;
    }

    public long digest() {
        long hash = HASH_FACTOR * HASH_START + script.length;
        for (int user = 0; user < USERS; user++) {
            hash = now.hashUser(hash, user);
        }
        hash = now.post.hashMessages(hash);
        return HASH_FACTOR * hash + savedCount;
    }

    // ---- what the face is made of

    private static void checkUser(int user) {
        if (user < 0 || user >= USERS) {
            throw new IndexOutOfBoundsException("there is no such user");
        }
    }

    private static void checkPair(int user, int other) {
        checkUser(user);
        checkUser(other);
        if (user == other) {
            throw new IllegalArgumentException("both are the same user");
        }
    }

    private static void checkSeat(int user, int seat) {
        checkUser(user);
        if (seat < 0 || seat >= SEATS) {
            throw new IndexOutOfBoundsException("there is no such seat");
        }
    }

    private static void checkWhat(int what, int limit) {
        if (what < 0 || what >= limit) {
            throw new IllegalArgumentException("what is out of range");
        }
    }

    private void checkMessage(int index) {
        if (index < 0 || index >= now.post.size) {
            throw new IndexOutOfBoundsException("there is no such message");
        }
    }

    private void saveState() {
        if (savedCount >= MOST_SAVED) {
            dropOldestState();
        }
        saved[savedCount].copyFrom(now);
        savedCount++;
    }

    private void dropOldestState() {
        World oldest = saved[0];
        for (int i = 1; i < MOST_SAVED; i++) {
            saved[i - 1] = saved[i];
        }
        // The dropped world is written over by the next state, so it stays in the row.
        saved[MOST_SAVED - 1] = oldest;
        savedCount = MOST_SAVED - 1;
    }

    /** Carries out an order in the trial world; false if its method would throw an exception. */
    private boolean tryOrder(int order) {
        int first = script.digit(order, 1);
        int second = script.digit(order, 2);
        switch (script.letter(order)) {
            case 'a':
                trial.askFor(first, second);
                return true;
            case 'g':
                trial.grantTo(first, second);
                return true;
            case 'r':
                trial.refuseTo(first, second);
                return true;
            case 's':
                trial.stopSeeing(first, second);
                return true;
            case 'i':
                trial.switchOn(first, second, 0, 0);
                return true;
            case 'o':
                return trial.switchOff(first, second) != NONE;
            default:
                trial.letArrive(10 * first + second);
                return true;
        }
    }

    /** Everything that undo brings back, and the rules by which it changes. */
    private static final class World {
        final Seats seats = new Seats();
        final Rosters rosters = new Rosters();
        final Views views = new Views();
        final Post post = new Post();
        private final int[] blocks = new int[USERS * USERS];

        void copyFrom(World from) {
            seats.copyFrom(from.seats);
            rosters.copyFrom(from.rosters);
            views.copyFrom(from.views);
            post.copyFrom(from.post);
            System.arraycopy(from.blocks, 0, blocks, 0, USERS * USERS);
        }

        boolean apart(int user, int other) {
            return blocks[user * USERS + other] == 1 || blocks[other * USERS + user] == 1;
        }

        int askFor(int user, int other) {
            if (rosters.hasAny(user, other, SEES | ASKED)) {
                return 0;
            }
            rosters.change(user, other, 0, ASKED);
            send(ASK, user, other);
            return 1;
        }

        int grantTo(int user, int other) {
            if (!rosters.hasAny(user, other, ASKING)) {
                return 0;
            }
            rosters.change(user, other, ASKING, SEEN);
            send(GRANT, user, other);
            show(user, other);
            return 1;
        }

        int refuseTo(int user, int other) {
            if (!rosters.hasAny(user, other, SEEN | ASKING)) {
                return 0;
            }
            boolean wasSeen = rosters.hasAny(user, other, SEEN);
            rosters.change(user, other, SEEN | ASKING, 0);
            send(REFUSE, user, other);
            if (wasSeen) {
                hide(user, other);
            }
            return 1;
        }

        int stopSeeing(int user, int other) {
            if (!rosters.hasAny(user, other, SEES | ASKED)) {
                return 0;
            }
            rosters.change(user, other, SEES | ASKED, 0);
            send(STOP, user, other);
            views.forget(user, other);
            return 1;
        }

        int changeBlock(int user, int other, boolean blocked) {
            int at = user * USERS + other;
            if ((blocks[at] == 1) == blocked) {
                return 0;
            }
            if (blocked) {
                // Hides first: once they are apart nothing would be sent.
                if (rosters.hasAny(user, other, SEEN)) {
                    hide(user, other);
                }
                blocks[at] = 1;
                views.forget(user, other);
            } else {
                blocks[at] = 0;
                greetAgain(user, other);
            }
            return 1;
        }

        private void greetAgain(int user, int other) {
            if (rosters.hasAny(user, other, SEES) && seats.isThere(user)) {
                send(PROBE, user, other);
            }
            if (rosters.hasAny(user, other, SEEN)) {
                show(user, other);
            }
        }

        int switchOn(int user, int seat, int rank, int mood) {
            boolean wasThere = seats.isThere(user);
            seats.set(user, seat, rank, mood);
            if (!wasThere) {
                views.forgetAll(user);
                for (int other = 0; other < USERS; other++) {
                    if (rosters.hasAny(user, other, SEES)) {
                        send(PROBE, user, other);
                    }
                }
            }
            sendToSeers(HERE, user, seat, mood);
            return seats.onCount(user);
        }

        /** NONE, and nothing happens, if the seat is off. */
        int switchOff(int user, int seat) {
            if (!seats.isOn(user, seat)) {
                return NONE;
            }
            seats.clear(user, seat);
            sendToSeers(GONE, user, seat, NONE);
            if (!seats.isThere(user)) {
                views.forgetAll(user);
            }
            return seats.onCount(user);
        }

        /** The number of messages that have arrived, at most count. */
        int letArrive(int count) {
            int arrived = 0;
            while (arrived < count && post.size > 0) {
                arrive(post.takeOldest());
                arrived++;
            }
            return arrived;
        }

        /** NONE if there is no rest after as many arrivals as a trial may have. */
        int matchingPairsAtRest() {
            letArrive(MOST_ARRIVALS);
            return post.size == 0 ? rosters.matchingPairs() : NONE;
        }

        private void arrive(int message) {
            int from = Post.part(message, 1);
            int to = Post.part(message, 2);
            if (apart(from, to)) {
                return;
            }
            switch (Post.part(message, 0)) {
                case ASK:
                    if (rosters.hasAny(to, from, SEEN)) {
                        send(GRANT, to, from);
                        show(to, from);
                    } else {
                        rosters.change(to, from, 0, ASKING);
                    }
                    break;
                case GRANT:
                    if (rosters.hasAny(to, from, ASKED)) {
                        rosters.change(to, from, ASKED, SEES);
                    }
                    break;
                case STOP:
                    if (rosters.hasAny(to, from, SEEN | ASKING)) {
                        rosters.change(to, from, SEEN | ASKING, 0);
                        hide(to, from);
                    }
                    break;
                case REFUSE:
                    rosters.change(to, from, SEES | ASKED, 0);
                    views.forget(to, from);
                    break;
                case HERE:
                    if (rosters.hasAny(to, from, SEES) && seats.isThere(to)) {
                        views.set(to, from, Post.part(message, 3), Post.part(message, 4));
                    }
                    break;
                case GONE:
                    views.set(to, from, Post.part(message, 3), NONE);
                    break;
                default:
                    if (rosters.hasAny(to, from, SEEN)) {
                        show(to, from);
                    } else {
                        send(REFUSE, to, from);
                    }
                    break;
            }
        }

        private void show(int user, int other) {
            for (int seat = 0; seat < SEATS; seat++) {
                if (seats.isOn(user, seat)) {
                    sendOfSeat(HERE, user, other, seat, seats.moodOf(user, seat));
                }
            }
        }

        private void hide(int user, int other) {
            for (int seat = 0; seat < SEATS; seat++) {
                if (seats.isOn(user, seat)) {
                    sendOfSeat(GONE, user, other, seat, NONE);
                }
            }
        }

        private void sendToSeers(int kind, int user, int seat, int mood) {
            for (int other = 0; other < USERS; other++) {
                if (rosters.hasAny(user, other, SEEN)) {
                    sendOfSeat(kind, user, other, seat, mood);
                }
            }
        }

        private void send(int kind, int from, int to) {
            sendOfSeat(kind, from, to, NONE, NONE);
        }

        private void sendOfSeat(int kind, int from, int to, int seat, int mood) {
            if (!apart(from, to)) {
                post.put(Post.pack(kind, from, to, seat, mood));
            }
        }

        int wrongViewsOf(int user) {
            boolean there = seats.isThere(user);
            int wrong = 0;
            for (int other = 0; other < USERS; other++) {
                if (other == user) {
                    continue;
                }
                boolean sees = rosters.hasAny(user, other, SEES);
                for (int seat = 0; seat < SEATS; seat++) {
                    if (isWrong(views.mood(user, other, seat), other, seat, sees, there)) {
                        wrong++;
                    }
                }
            }
            return wrong;
        }

        private boolean isWrong(int view, int other, int seat, boolean sees, boolean there) {
            boolean on = seats.isOn(other, seat);
            if (view == NONE) {
                return sees && there && on;
            }
            return !on || !sees || view != seats.moodOf(other, seat);
        }

        long hashUser(long before, int user) {
            long hash = HASH_FACTOR * before + rosters.rosterVersion(user);
            for (int seat = 0; seat < SEATS; seat++) {
                for (int what = 0; what < SEAT_VALUES; what++) {
                    hash = HASH_FACTOR * hash + seats.value(user, seat, what);
                }
            }
            for (int other = 0; other < USERS; other++) {
                if (other != user) {
                    hash = hashPair(hash, user, other);
                }
            }
            return hash;
        }

        private long hashPair(long before, int user, int other) {
            long hash = HASH_FACTOR * before + rosters.state(user, other);
            hash = HASH_FACTOR * hash + rosters.entryVersion(user, other);
            hash = HASH_FACTOR * hash + blocks[user * USERS + other];
            for (int seat = 0; seat < SEATS; seat++) {
                hash = HASH_FACTOR * hash + views.mood(user, other, seat);
            }
            return hash;
        }
    }

    private static final class Seats {
        private final int[] on = new int[USERS * SEATS];
        private final int[] ranks = new int[USERS * SEATS];
        private final int[] moods = new int[USERS * SEATS];

        void copyFrom(Seats from) {
            System.arraycopy(from.on, 0, on, 0, USERS * SEATS);
            System.arraycopy(from.ranks, 0, ranks, 0, USERS * SEATS);
            System.arraycopy(from.moods, 0, moods, 0, USERS * SEATS);
        }

        boolean isOn(int user, int seat) {
            return on[user * SEATS + seat] == 1;
        }

        int moodOf(int user, int seat) {
            return moods[user * SEATS + seat];
        }

        int onCount(int user) {
            int count = 0;
            for (int seat = 0; seat < SEATS; seat++) {
                count += on[user * SEATS + seat];
            }
            return count;
        }

        boolean isThere(int user) {
            return onCount(user) > 0;
        }

        void set(int user, int seat, int rank, int mood) {
            int at = user * SEATS + seat;
            on[at] = 1;
            ranks[at] = rank;
            moods[at] = mood;
        }

        // Rank and mood stay: they are told of the latest time when the seat was on.
        void clear(int user, int seat) {
            on[user * SEATS + seat] = 0;
        }

        int best(int user) {
            int best = NONE;
            int bestRank = -1;
            for (int seat = 0; seat < SEATS; seat++) {
                int rank = ranks[user * SEATS + seat];
                if (isOn(user, seat) && rank > bestRank) {
                    best = seat;
                    bestRank = rank;
                }
            }
            return best;
        }

        int value(int user, int seat, int what) {
            int at = user * SEATS + seat;
            switch (what) {
                case 0:
                    return on[at];
                case 1:
                    return ranks[at];
                default:
                    return moods[at];
            }
        }
    }

    private static final class Rosters {
        private final int[] states = new int[USERS * USERS];
        private final int[] entryVersions = new int[USERS * USERS];
        private final int[] rosterVersions = new int[USERS];

        void copyFrom(Rosters from) {
            System.arraycopy(from.states, 0, states, 0, USERS * USERS);
            System.arraycopy(from.entryVersions, 0, entryVersions, 0, USERS * USERS);
            System.arraycopy(from.rosterVersions, 0, rosterVersions, 0, USERS);
        }

        int state(int user, int other) {
            return states[user * USERS + other];
        }

        int entryVersion(int user, int other) {
            return entryVersions[user * USERS + other];
        }

        int rosterVersion(int user) {
            return rosterVersions[user];
        }

        boolean hasAny(int user, int other, int marks) {
            return (states[user * USERS + other] & marks) != 0;
        }

        /** Takes marks away and sets others, as one change of the version. */
        void change(int user, int other, int away, int set) {
            int at = user * USERS + other;
            int state = states[at] & ~away | set;
            if (state != states[at]) {
                states[at] = state;
                rosterVersions[user]++;
                entryVersions[at] = rosterVersions[user];
            }
        }

        int changedAfter(int user, int version) {
            int changed = 0;
            for (int other = 0; other < USERS; other++) {
                if (entryVersions[user * USERS + other] > version) {
                    changed++;
                }
            }
            return changed;
        }

        boolean match(int user, int other) {
            int theirs = states[other * USERS + user];
            // Each mark stands beside its counterpart, so a shift by one mirrors the entry.
            int mirrored = (theirs & (SEES | ASKED)) << 1 | (theirs & (SEEN | ASKING)) >> 1;
            return states[user * USERS + other] == mirrored;
        }

        int matchingPairs() {
            int pairs = 0;
            for (int user = 0; user < USERS; user++) {
                for (int other = user + 1; other < USERS; other++) {
                    if (match(user, other)) {
                        pairs++;
                    }
                }
            }
            return pairs;
        }
    }

    private static final class Views {
        private final int[] moods = new int[USERS * USERS * SEATS];

        Views() {
            Arrays.fill(moods, NONE);
        }

        void copyFrom(Views from) {
            System.arraycopy(from.moods, 0, moods, 0, USERS * USERS * SEATS);
        }

        int mood(int user, int other, int seat) {
            return moods[(user * USERS + other) * SEATS + seat];
        }

        void set(int user, int other, int seat, int mood) {
            if (seat >= 0 && seat < SEATS) {
                moods[(user * USERS + other) * SEATS + seat] = mood;
            }
        }

        void forget(int user, int other) {
            for (int seat = 0; seat < SEATS; seat++) {
                moods[(user * USERS + other) * SEATS + seat] = NONE;
            }
        }

        void forgetAll(int user) {
            for (int other = 0; other < USERS; other++) {
                forget(user, other);
            }
        }

        int seeingPairs() {
            int pairs = 0;
            for (int user = 0; user < USERS; user++) {
                for (int other = 0; other < USERS; other++) {
                    if (hasView(user, other)) {
                        pairs++;
                    }
                }
            }
            return pairs;
        }

        private boolean hasView(int user, int other) {
            for (int seat = 0; seat < SEATS; seat++) {
                if (mood(user, other, seat) != NONE) {
                    return true;
                }
            }
            return false;
        }
    }

    /** The messages under way, in a ring, and the counts of all messages. A message is one number. */
    private static final class Post {
        private final int[] ring = new int[ROOM];
        private int oldest;
        int size;
        final int[] counts = new int[COUNTS];

        void copyFrom(Post from) {
            System.arraycopy(from.ring, 0, ring, 0, ROOM);
            System.arraycopy(from.counts, 0, counts, 0, COUNTS);
            oldest = from.oldest;
            size = from.size;
        }

        // Remainders, not bit fields: part() takes a kind, users and a seat that exist out of any number.
        static int pack(int kind, int from, int to, int seat, int mood) {
            int place = (seat - NONE) + (SEATS + 1) * (mood - NONE);
            return kind + KINDS * (from + USERS * (to + USERS * place));
        }

        /** The part of a message that message() tells for a what. */
        static int part(int message, int what) {
            int users = message / KINDS;
            int place = users / (USERS * USERS);
            switch (what) {
                case 0:
                    return Math.floorMod(message, KINDS);
                case 1:
                    return Math.floorMod(users, USERS);
                case 2:
                    return Math.floorMod(users / USERS, USERS);
                case 3:
                    return Math.floorMod(place, SEATS + 1) + NONE;
                default:
                    return place / (SEATS + 1) + NONE;
            }
        }

        // floorMod, and in part() too, so that no number can lead out of a row.
        private int slot(int index) {
            return Math.floorMod(oldest + index, ROOM);
        }

        int messageAt(int index) {
            return ring[slot(index)];
        }

        boolean isOfSeat(int index) {
            return part(messageAt(index), 3) != NONE;
        }

        void put(int message) {
            counts[SENT]++;
            if (size >= ROOM) {
                counts[LOST]++;
                return;
            }
            // Not by slot(): with it and floorMod the calls would go nine deep, and rule 11 allows eight.
            ring[(oldest + size) % ROOM] = message;
            size++;
        }

        int takeOldest() {
            int message = messageAt(0);
            oldest = slot(1);
            size--;
            counts[ARRIVED]++;
            return message;
        }

        int loseAt(int index) {
            int message = messageAt(index);
            for (int i = index + 1; i < size; i++) {
                ring[slot(i - 1)] = ring[slot(i)];
            }
            size--;
            counts[LOST]++;
            return message;
        }

        long hashMessages(long before) {
            long hash = before;
            for (int what = 0; what < COUNTS; what++) {
                hash = HASH_FACTOR * hash + counts[what];
            }
            hash = HASH_FACTOR * hash + size;
            for (int index = 0; index < size; index++) {
                int message = messageAt(index);
                for (int what = 0; what < MESSAGE_PARTS; what++) {
                    hash = HASH_FACTOR * hash + part(message, what);
                }
            }
            return hash;
        }
    }

    private static final class Script {
        private final byte[] text = new byte[MOST_TEXT];
        int length;

        int add(byte value) {
            text[length] = value;
            length++;
            return length;
        }

        int orders() {
            return length / ORDER_LENGTH;
        }

        int letter(int order) {
            return text[order * ORDER_LENGTH];
        }

        int digit(int order, int place) {
            return text[order * ORDER_LENGTH + place] - '0';
        }

        /** NONE if the text has no syntax error. */
        int errorPosition() {
            for (int at = 0; at < length; at++) {
                if (!canStand(at)) {
                    return at;
                }
            }
            return length % ORDER_LENGTH == 0 ? NONE : length;
        }

        private boolean canStand(int at) {
            int order = at / ORDER_LENGTH;
            int letter = letter(order);
            switch (at % ORDER_LENGTH) {
                case 0:
                    return isLetter(letter);
                case 1:
                    return isDigitBelow(digit(order, 1), letter == 'd' ? 10 : USERS);
                case 2:
                    return canBeSecond(letter, digit(order, 1), digit(order, 2));
                default:
                    return text[at] == ';';
            }
        }

        private static boolean isLetter(int letter) {
            switch (letter) {
                case 'a':
                case 'g':
                case 'r':
                case 's':
                case 'i':
                case 'o':
                case 'd':
                    return true;
                default:
                    return false;
            }
        }

        private static boolean canBeSecond(int letter, int first, int second) {
            switch (letter) {
                case 'd':
                    return isDigitBelow(second, 10);
                case 'i':
                case 'o':
                    return isDigitBelow(second, SEATS);
                default:
                    return isDigitBelow(second, USERS) && second != first;
            }
        }

        private static boolean isDigitBelow(int digit, int limit) {
            return digit >= 0 && digit < limit;
        }
    }
}
