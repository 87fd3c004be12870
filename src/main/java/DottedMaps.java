import java.util.NoSuchElementException;

/**
 * Nested maps on two to four replicas that change them apart from one another, send one another
 * what has come, and may fail in the middle of a write.
 *
 * <p>All that a call works with is made by the constructor and used again: a run of calls makes
 * nothing but the exceptions that it throws.
 */
public final class DottedMaps {
    public static final int NONE = -1;

    private static final int LEAST_REPLICAS = 2;
    private static final int MOST_REPLICAS = 4;
    private static final int MOST_DOTS = 60;
    private static final int MOST_PATH = 999;
    private static final int DIGITS = 4;
    private static final int LOG_DELTAS = 6;
    private static final int BUFFER_DELTAS = 12;
    private static final int MOST_MESSAGES = 24;
    private static final int FARTHEST_FAILURE = 20;

    private static final int FLAG = 1;
    private static final int REGISTER = 2;
    private static final int ELEMENT = 3;
    private static final int COUNT = 4;
    private static final int MOST_ELEMENT = 9;
    /** Behind this the elements of one number are told as a kind of their own. */
    private static final int ELEMENT_BASE = 10;
    /** The kind that no entry has, for a change that takes out nothing. */
    private static final int NO_KIND = 0;

    private final Replica[] replicas;
    private final Entries entries = new Entries();
    private final Post post = new Post();
    /** The entries that the call at hand is about. */
    private final Dots chosen = new Dots();
    /** The delta of the change, or of the message, at hand. */
    private final Delta draft = new Delta();

    public DottedMaps(int replicas) {
        int many = Math.max(LEAST_REPLICAS, Math.min(MOST_REPLICAS, replicas));
        this.replicas = new Replica[many];
        for (int r = 0; r < many; r++) {
            this.replicas[r] = new Replica(r, many);
        }
    }

    public int raise(int r, int path) throws IllegalArgumentException, IllegalStateException {
        require(isReplica(r) && isPath(path));
        return putEntry(r, path, FLAG, 0, FLAG);
    }

    public int write(int r, int path, int v) throws IllegalArgumentException, IllegalStateException {
        require(isReplica(r) && isPath(path));
        return putEntry(r, path, REGISTER, v, REGISTER);
    }

    public int add(int r, int path, int e) throws IllegalArgumentException, IllegalStateException {
        require(isReplica(r) && isPath(path) && e >= 0 && e <= MOST_ELEMENT);
        return putEntry(r, path, ELEMENT, e, ELEMENT_BASE + e);
    }

    public int count(int r, int path, int n) throws IllegalArgumentException, IllegalStateException {
        require(isReplica(r) && isPath(path) && n != 0);
        return putEntry(r, path, COUNT, n, NO_KIND);
    }

    public int clear(int r, int path, int kind) throws IllegalArgumentException, IllegalStateException {
        require(isReplica(r) && isPath(path) && isKind(kind));
        Replica replica = upReplica(r);
        entries.chooseAt(replica.state.alive, path, kind, chosen);
        return takeOutChosen(replica);
    }

    public int erase(int r, int path) throws IllegalArgumentException, IllegalStateException {
        require(isReplica(r) && isPathOrRoot(path));
        Replica replica = upReplica(r);
        entries.chooseUnder(replica.state.alive, path, chosen);
        return takeOutChosen(replica);
    }

    public boolean sees(int r, int path, int kind) throws IllegalArgumentException, IllegalStateException {
        require(isReplica(r) && isPath(path) && isKind(kind));
        entries.chooseAt(upReplica(r).state.alive, path, kind, chosen);
        return chosen.size() > 0;
    }

    public int sum(int r, int path) throws IllegalArgumentException, IllegalStateException {
        require(isReplica(r) && isPath(path));
        entries.chooseAt(upReplica(r).state.alive, path, COUNT, chosen);
        return entries.total(chosen);
    }

    public int value(int r, int path, int k)
            throws IllegalArgumentException, IllegalStateException, NoSuchElementException {
        require(isReplica(r) && isPath(path));
        entries.chooseAt(upReplica(r).state.alive, path, REGISTER, chosen);
        if (k < 0 || k >= chosen.size()) {
            throw new NoSuchElementException();
        }
        long found = Entries.BELOW_ALL;
        for (int i = 0; i <= k; i++) {
            found = entries.leastAbove(chosen, found);
        }
        if (found == Entries.ABOVE_ALL) {
            throw new NoSuchElementException();
        }
        return (int) found;
    }

    public int keys(int r, int path) throws IllegalArgumentException, IllegalStateException {
        require(isReplica(r) && isPathOrRoot(path));
        Dots alive = upReplica(r).state.alive;
        int found = 0;
        for (int d = 1; d <= DIGITS; d++) {
            // Behind three digits this is no path, and nothing is alive there.
            entries.chooseUnder(alive, path * 10 + d, chosen);
            if (chosen.size() > 0) {
                found += 1 << d;
            }
        }
        return found;
    }

    public int gossip(int r, int q) throws IllegalArgumentException, IllegalStateException {
        require(isReplica(r) && isReplica(q) && r != q);
        Replica replica = upReplica(r);
        requireState(!post.isFull());
        if (replica.acks[q] >= replica.next) {
            return 0;
        }
        if (replica.acks[q] < replica.firstBuffered()) {
            post.sendData(r, q, replica.next, replica.state);
            return 2;
        }
        replica.joinBuffered(replica.acks[q], draft);
        post.sendData(r, q, replica.next, draft);
        return 1;
    }

    public int deliver(int k) throws IllegalArgumentException {
        require(post.has(k));
        Message message = post.take(k);
        Replica receiver = replicas[message.receiver];
        if (!receiver.up) {
            return 0;
        }
        if (!message.isData) {
            receiver.hearAck(message.sender, message.number);
            return 3;
        }
        boolean changes = receiver.state.changesBy(message.delta);
        if (changes && !receiver.takeIn(message.delta)) {
            return 0;
        }
        post.sendAck(message.receiver, message.sender, message.number);
        return changes ? 1 : 2;
    }

    public boolean lose(int k, boolean twice) {
        if (!post.has(k) || (twice && post.isFull())) {
            return false;
        }
        if (twice) {
            post.sendAgain(k);
        } else {
            post.take(k);
        }
        return true;
    }

    public int collect(int r) throws IllegalArgumentException, IllegalStateException {
        require(isReplica(r));
        return upReplica(r).dropHeard();
    }

    public int checkpoint(int r) throws IllegalArgumentException, IllegalStateException {
        require(isReplica(r));
        Replica replica = upReplica(r);
        requireState(replica.saveState());
        return replica.next;
    }

    public boolean power(int r, boolean up) {
        if (!isReplica(r) || replicas[r].up == up) {
            return false;
        }
        if (up) {
            replicas[r].comeUp();
        } else {
            replicas[r].up = false;
        }
        return true;
    }

    public boolean fail(int r, int k) {
        if (!isReplica(r) || k < 0 || k > FARTHEST_FAILURE) {
            return false;
        }
        replicas[r].failsIn = k;
        return true;
    }

    public int replica(int r, int what) {
        if (!isReplica(r)) {
            return NONE;
        }
        return what >= 10 ? ackOf(replicas[r], what - 10) : replicas[r].tell(what);
    }

    public int known(int r, int q, int what) throws IllegalArgumentException, IllegalStateException {
        require(isReplica(r) && isReplica(q) && what >= 0 && what <= 3);
        Delta state = upReplica(r).state;
        switch (what) {
            case 0:
                return state.known.sizeOf(q);
            case 1:
                return state.known.unbrokenOf(q);
            case 2:
                return state.known.greatestOf(q);
            default:
                return state.alive.sizeOf(q);
        }
    }

    public int message(int k, int what) {
        if (k == -1) {
            return post.size;
        }
        return post.has(k) ? post.messages[k].tell(what) : NONE;
    }

    private static void require(boolean asSaid) {
        if (!asSaid) {
            throw new IllegalArgumentException();
        }
    }

    private static void requireState(boolean fits) {
        if (!fits) {
            throw new IllegalStateException();
        }
    }

    private boolean isReplica(int r) {
        return r >= 0 && r < replicas.length;
    }

    private static boolean isDigit(int digit) {
        return digit >= 1 && digit <= DIGITS;
    }

    private static boolean isPath(int path) {
        if (path < 1 || path > MOST_PATH) {
            return false;
        }
        return isDigit(path % 10)
                && (path < 10 || isDigit(path / 10 % 10))
                && (path < 100 || isDigit(path / 100));
    }

    private static boolean isPathOrRoot(int path) {
        return path == 0 || isPath(path);
    }

    private static boolean isKind(int kind) {
        return (kind >= FLAG && kind <= COUNT)
                || (kind >= ELEMENT_BASE && kind <= ELEMENT_BASE + MOST_ELEMENT);
    }

    private Replica upReplica(int r) {
        requireState(replicas[r].up);
        return replicas[r];
    }

    /** Makes the change of a new entry in place of what is alive at its path of the kind replaced. */
    private int putEntry(int r, int path, int kind, int number, int replaced) {
        Replica replica = upReplica(r);
        int n = replica.state.known.greatestOf(r) + 1;
        requireState(n <= MOST_DOTS);
        entries.chooseAt(replica.state.alive, path, replaced, chosen);
        draft.takeOut(chosen);
        draft.enter(r, n);
        requireState(replica.takeIn(draft));
        // Only now: a dot whose taking in failed is nobody's, and will be given to another entry.
        entries.put(r, n, path, kind, number);
        return n;
    }

    private int takeOutChosen(Replica replica) {
        int taken = chosen.size();
        if (taken > 0) {
            draft.takeOut(chosen);
            requireState(replica.takeIn(draft));
        }
        return taken;
    }

    private int ackOf(Replica replica, int q) {
        return isReplica(q) && replica.up ? replica.acks[q] : NONE;
    }

    private static int oneIf(boolean holds) {
        return holds ? 1 : 0;
    }

    /** A set of dots: the dot n of replica q is bit n of row q. */
    private static final class Dots {
        final long[] rows = new long[MOST_REPLICAS];

        void reset() {
            for (int q = 0; q < MOST_REPLICAS; q++) {
                rows[q] = 0L;
            }
        }

        void copy(Dots other) {
            for (int q = 0; q < MOST_REPLICAS; q++) {
                rows[q] = other.rows[q];
            }
        }

        void put(int q, int n) {
            rows[q] |= 1L << n;
        }

        boolean has(int q, int n) {
            return (rows[q] >>> n & 1L) != 0L;
        }

        int size() {
            int size = 0;
            for (int q = 0; q < MOST_REPLICAS; q++) {
                size += sizeOf(q);
            }
            return size;
        }

        int sizeOf(int q) {
            return Long.bitCount(rows[q]);
        }

        /** Up to which number all dots of a replica are here. */
        int unbrokenOf(int q) {
            int n = 0;
            while (n < MOST_DOTS && has(q, n + 1)) {
                n++;
            }
            return n;
        }

        int greatestOf(int q) {
            int n = MOST_DOTS;
            while (n > 0 && !has(q, n)) {
                n--;
            }
            return n;
        }
    }

    /** Path, kind and number of every dot that has been given: one entry has one dot everywhere. */
    private static final class Entries {
        /** Bounds for the search among ints that no int reaches. */
        static final long BELOW_ALL = -3_000_000_000L;
        static final long ABOVE_ALL = 3_000_000_000L;

        final int[][] paths = new int[MOST_REPLICAS][MOST_DOTS + 1];
        final int[][] kinds = new int[MOST_REPLICAS][MOST_DOTS + 1];
        final int[][] numbers = new int[MOST_REPLICAS][MOST_DOTS + 1];

        void put(int q, int n, int path, int kind, int number) {
            paths[q][n] = path;
            kinds[q][n] = kind;
            numbers[q][n] = number;
        }

        /** Chooses what is alive at just a path of a kind. */
        void chooseAt(Dots alive, int path, int kind, Dots chosen) {
            chosen.reset();
            for (int q = 0; q < MOST_REPLICAS; q++) {
                for (int n = 1; n <= MOST_DOTS; n++) {
                    if (alive.has(q, n) && paths[q][n] == path && isOfKind(q, n, kind)) {
                        chosen.put(q, n);
                    }
                }
            }
        }

        /** Chooses what is alive at a path and below it. */
        void chooseUnder(Dots alive, int path, Dots chosen) {
            chosen.reset();
            for (int q = 0; q < MOST_REPLICAS; q++) {
                for (int n = 1; n <= MOST_DOTS; n++) {
                    if (alive.has(q, n) && isUnder(paths[q][n], path)) {
                        chosen.put(q, n);
                    }
                }
            }
        }

        int total(Dots chosen) {
            int total = 0;
            for (int q = 0; q < MOST_REPLICAS; q++) {
                for (int n = 1; n <= MOST_DOTS; n++) {
                    if (chosen.has(q, n)) {
                        total += numbers[q][n];
                    }
                }
            }
            return total;
        }

        /** The least number of the chosen entries above a bound, ABOVE_ALL when there is none. */
        long leastAbove(Dots chosen, long bound) {
            long least = ABOVE_ALL;
            for (int q = 0; q < MOST_REPLICAS; q++) {
                for (int n = 1; n <= MOST_DOTS; n++) {
                    if (chosen.has(q, n) && numbers[q][n] > bound) {
                        least = Math.min(least, numbers[q][n]);
                    }
                }
            }
            return least;
        }

        private boolean isOfKind(int q, int n, int kind) {
            if (kind >= ELEMENT_BASE) {
                return kinds[q][n] == ELEMENT && numbers[q][n] == kind - ELEMENT_BASE;
            }
            return kinds[q][n] == kind;
        }

        private static boolean isUnder(int path, int above) {
            return above == 0 || path == above || path / 10 == above || path / 100 == above;
        }
    }

    /** A delta, or the state of a replica. */
    private static final class Delta {
        final Dots known = new Dots();
        final Dots alive = new Dots();

        void reset() {
            known.reset();
            alive.reset();
        }

        void copy(Delta other) {
            known.copy(other.known);
            alive.copy(other.alive);
        }

        /** Becomes the delta of a change that takes some entries out and brings none. */
        void takeOut(Dots taken) {
            known.copy(taken);
            alive.reset();
        }

        void enter(int q, int n) {
            known.put(q, n);
            alive.put(q, n);
        }

        void join(Delta other) {
            for (int q = 0; q < MOST_REPLICAS; q++) {
                long joined = aliveJoined(other, q);
                known.rows[q] |= other.known.rows[q];
                alive.rows[q] = joined;
            }
        }

        /** Whether joining the other one would change this one. */
        boolean changesBy(Delta other) {
            for (int q = 0; q < MOST_REPLICAS; q++) {
                if ((other.known.rows[q] & ~known.rows[q]) != 0L
                        || aliveJoined(other, q) != alive.rows[q]) {
                    return true;
                }
            }
            return false;
        }

        private long aliveJoined(Delta other, int q) {
            long here = alive.rows[q];
            long there = other.alive.rows[q];
            return (here & there) | (here & ~other.known.rows[q]) | (there & ~known.rows[q]);
        }
    }

    /** Deltas in a row; the places behind its end are kept to be filled again. */
    private static final class DeltaRow {
        final Delta[] deltas;
        int size;

        DeltaRow(int room) {
            deltas = new Delta[room];
            for (int i = 0; i < room; i++) {
                deltas[i] = new Delta();
            }
        }

        boolean isFull() {
            return size >= deltas.length;
        }

        void append(Delta delta) {
            if (!isFull()) {
                deltas[size].copy(delta);
                size++;
            }
        }

        void joinFrom(int first, Delta target) {
            for (int i = Math.max(0, first); i < size; i++) {
                target.join(deltas[i]);
            }
        }

        /** Drops so many from the front, or all; answers how many went. */
        int dropFirst(int many) {
            int gone = Math.max(0, Math.min(many, size));
            for (int i = gone; i < size; i++) {
                Delta free = deltas[i - gone];
                deltas[i - gone] = deltas[i];
                deltas[i] = free;
            }
            size -= gone;
            return gone;
        }
    }

    /** One of the two places that a checkpoint may be written to. */
    private static final class Slot {
        final Delta state = new Delta();
        int next;
        boolean whole;

        Slot(boolean whole) {
            this.whole = whole;
        }
    }

    private static final class Replica {
        final int self;
        final Delta state = new Delta();
        final DeltaRow buffer = new DeltaRow(BUFFER_DELTAS);
        final DeltaRow log = new DeltaRow(LOG_DELTAS);
        final Slot slot0 = new Slot(true);
        final Slot slot1 = new Slot(false);
        final int[] acks;
        boolean up = true;
        int next;
        int writes;
        /** Which of the writes from now on fails; 0 when none does. */
        int failsIn;

        Replica(int self, int replicas) {
            this.self = self;
            this.acks = new int[replicas];
        }

        /** Takes a delta in; answers whether it could, for a write may fail. */
        boolean takeIn(Delta delta) {
            if (log.isFull() && !saveState()) {
                return false;
            }
            if (!writeHolds()) {
                return false;
            }
            log.append(delta);
            state.join(delta);
            if (buffer.isFull()) {
                buffer.dropFirst(1);
            }
            buffer.append(delta);
            next++;
            return true;
        }

        /** Makes a checkpoint; answers whether its write held. */
        boolean saveState() {
            Slot slot = slotToWrite();
            slot.whole = writeHolds();
            if (!slot.whole) {
                return false;
            }
            slot.state.copy(state);
            slot.next = next;
            log.dropFirst(LOG_DELTAS);
            return true;
        }

        void comeUp() {
            Slot slot = slotToRead();
            state.copy(slot.state);
            log.joinFrom(0, state);
            next = slot.next + log.size;
            buffer.dropFirst(BUFFER_DELTAS);
            for (int q = 0; q < acks.length; q++) {
                acks[q] = 0;
            }
            failsIn = 0;
            up = true;
        }

        void hearAck(int q, int number) {
            acks[q] = Math.max(acks[q], number);
        }

        int firstBuffered() {
            return next - buffer.size;
        }

        /** Makes the join of the buffered deltas from a number on. */
        void joinBuffered(int number, Delta target) {
            target.reset();
            buffer.joinFrom(number - firstBuffered(), target);
        }

        /** Drops the buffered deltas that all others have; answers how many. */
        int dropHeard() {
            return buffer.dropFirst(leastAck() - firstBuffered());
        }

        int tell(int what) {
            switch (what) {
                case 0:
                    return oneIf(up);
                case 1:
                    return up ? next : NONE;
                case 2:
                    return up ? firstBuffered() : NONE;
                case 3:
                    return log.size;
                case 4:
                    return writes;
                case 5:
                    return up ? state.alive.size() : NONE;
                case 6:
                    return slot0.next;
                case 7:
                    return slot1.next;
                case 8:
                    return oneIf(slot0.whole);
                case 9:
                    return oneIf(slot1.whole);
                default:
                    return NONE;
            }
        }

        private boolean writeHolds() {
            writes++;
            boolean fails = failsIn == 1;
            failsIn = Math.max(0, failsIn - 1);
            if (fails) {
                up = false;
            }
            return !fails;
        }

        /** Never the slot that the log goes on from, so that a failing write loses nothing. */
        private Slot slotToWrite() {
            if (!slot0.whole) {
                return slot0;
            }
            return slot1.whole && slot0.next < slot1.next ? slot0 : slot1;
        }

        private Slot slotToRead() {
            if (!slot0.whole) {
                return slot1;
            }
            return slot1.whole && slot1.next > slot0.next ? slot1 : slot0;
        }

        private int leastAck() {
            int least = next;
            for (int q = 0; q < acks.length; q++) {
                if (q != self) {
                    least = Math.min(least, acks[q]);
                }
            }
            return least;
        }
    }

    /** DATA or an ACK; the delta of an ACK is empty. */
    private static final class Message {
        final Delta delta = new Delta();
        boolean isData;
        int sender;
        int receiver;
        int number;

        void address(boolean isData, int sender, int receiver, int number) {
            this.isData = isData;
            this.sender = sender;
            this.receiver = receiver;
            this.number = number;
        }

        int tell(int what) {
            switch (what) {
                case 0:
                    return oneIf(isData);
                case 1:
                    return sender;
                case 2:
                    return receiver;
                case 3:
                    return number;
                case 4:
                    return delta.alive.size();
                case 5:
                    return delta.known.size();
                default:
                    return NONE;
            }
        }
    }

    /** The messages under way; the places behind their end are kept to be filled again. */
    private static final class Post {
        final Message[] messages = new Message[MOST_MESSAGES];
        int size;

        Post() {
            for (int i = 0; i < MOST_MESSAGES; i++) {
                messages[i] = new Message();
            }
        }

        boolean isFull() {
            return size >= MOST_MESSAGES;
        }

        boolean has(int k) {
            return k >= 0 && k < size;
        }

        void sendData(int sender, int receiver, int number, Delta delta) {
            if (!isFull()) {
                messages[size].address(true, sender, receiver, number);
                messages[size].delta.copy(delta);
                size++;
            }
        }

        void sendAck(int sender, int receiver, int number) {
            if (!isFull()) {
                messages[size].address(false, sender, receiver, number);
                messages[size].delta.reset();
                size++;
            }
        }

        void sendAgain(int k) {
            Message message = messages[k];
            if (message.isData) {
                sendData(message.sender, message.receiver, message.number, message.delta);
            } else {
                sendAck(message.sender, message.receiver, message.number);
            }
        }

        /** Takes message k out; it may be read until the next one is sent, which uses its place. */
        Message take(int k) {
            Message taken = messages[k];
            for (int i = k + 1; i < size; i++) {
                messages[i - 1] = messages[i];
            }
            size--;
            messages[size] = taken;
            return taken;
        }
    }
}
