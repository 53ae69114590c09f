import java.util.Arrays;

/**
 * A kernel that keeps programs apart: each has its own region of memory, its own registers and its
 * own windows of time, and hears of others only through channels told before the seal.
 */
public final class PartitionKernel {
    public static final int NONE = -1;

    private static final int MEMORY_WORDS = 512;
    private static final int PARTITIONS = 6;
    private static final int CHANNELS = 8;
    private static final int REGISTERS = 4;
    private static final int MOST_WINDOWS = 12;
    private static final int MOST_WINDOW_TICKS = 100;
    private static final int MOST_RESTARTS = 100;
    private static final int MOST_ROOM = 8;
    private static final int MOST_STEP = 5000;
    private static final int OLDEST = 1000000;

    private static final int NOT_TOLD = 0;
    private static final int READY = 1;
    private static final int HALTED = 2;
    private static final int FAULTED = 3;

    private static final int NO_FAULT = 0;
    private static final int PLACE_FAULT = 1;
    private static final int WORD_FAULT = 2;
    private static final int CHANNEL_FAULT = 3;
    private static final int CODE_FAULT = 4;

    private final int[] memory;
    private final Partition[] partitions;
    private final Channel[] channels;
    private final int[] windowOwners;
    private final int[] windowLengths;
    private int windowCount;
    private int frameTicks;
    private boolean sealed;
    private int windowAtHand;
    private int ticksIntoWindow;
    private boolean yielded;
    private int ticksDone;

    public PartitionKernel() {
        memory = new int[MEMORY_WORDS];
        partitions = new Partition[PARTITIONS];
        for (int p = 0; p < PARTITIONS; p++) {
            partitions[p] = new Partition();
        }
        channels = new Channel[CHANNELS];
        for (int c = 0; c < CHANNELS; c++) {
            channels[c] = new Channel();
        }
        windowOwners = new int[MOST_WINDOWS];
        windowLengths = new int[MOST_WINDOWS];
    }

    public void partition(int p, int base, int length, int entry, int restarts)
            throws IllegalStateException, IllegalArgumentException {
        refuseIfSealed();
        if (p < 0 || p >= PARTITIONS || partitions[p].isTold()) {
            throw new IllegalArgumentException("no such partition, or told already");
        }
        if (!isInMemory(base, length) || sharesWord(base, length)) {
            throw new IllegalArgumentException("region not in memory, or not free");
        }
        if (entry < 0 || entry >= length || restarts < 0 || restarts > MOST_RESTARTS) {
            throw new IllegalArgumentException("entry not in the region, or restarts not 0 to 100");
        }
        partitions[p].tell(base, length, entry, restarts);
    }

    public int window(int p, int ticks) throws IllegalStateException, IllegalArgumentException {
        refuseIfSealed();
        if (p != NONE) {
            refuseUnlessTold(p);
        }
        if (ticks < 1 || ticks > MOST_WINDOW_TICKS || windowCount >= MOST_WINDOWS) {
            throw new IllegalArgumentException("ticks not 1 to 100, or the frame is full");
        }
        windowOwners[windowCount] = p;
        windowLengths[windowCount] = ticks;
        windowCount++;
        frameTicks += ticks;
        return windowCount;
    }

    public void channel(int c, int from, int to, int room)
            throws IllegalStateException, IllegalArgumentException {
        refuseIfSealed();
        if (c < 0 || c >= CHANNELS || channels[c].isTold) {
            throw new IllegalArgumentException("no such channel, or told already");
        }
        refuseUnlessTold(from);
        refuseUnlessTold(to);
        if (from == to || room < 0 || room > MOST_ROOM) {
            throw new IllegalArgumentException("a channel to itself, or room not 0 to 8");
        }
        channels[c].tell(from, to, room);
    }

    public int poke(int p, int i, int v)
            throws IllegalStateException, IllegalArgumentException, IndexOutOfBoundsException {
        refuseIfSealed();
        int at = addressOf(p, i);
        int before = memory[at];
        memory[at] = v;
        return before;
    }

    public int peek(int p, int i) throws IllegalArgumentException, IndexOutOfBoundsException {
        return memory[addressOf(p, i)];
    }

    public int seal() throws IllegalStateException {
        refuseIfSealed();
        if (windowCount == 0) {
            throw new IllegalStateException("no window");
        }
        sealed = true;
        return frameTicks;
    }

    public int step(int n) throws IllegalStateException, IllegalArgumentException {
        if (!sealed) {
            throw new IllegalStateException("not sealed");
        }
        if (n < 0 || n > MOST_STEP) {
            throw new IllegalArgumentException("ticks not 0 to 5000");
        }
        int busy = 0;
        for (int t = 0; t < n; t++) {
            if (goOneTick()) {
                busy++;
            }
        }
        return busy;
    }

    public int told(int p, int what) throws IllegalArgumentException {
        if (p < 0 || p >= PARTITIONS || what < 0 || what > 9) {
            throw new IllegalArgumentException("no such partition, or nothing to tell");
        }
        return partitions[p].report(what);
    }

    public int has(int c, int what) throws IllegalArgumentException {
        if (!isChannel(c) || what < 0 || what > 4) {
            throw new IllegalArgumentException("no such channel, or nothing to tell");
        }
        return channels[c].report(what, ticksDone);
    }

    public int queued(int c, int k) throws IllegalArgumentException {
        if (!isChannel(c)) {
            throw new IllegalArgumentException("no such channel");
        }
        return channels[c].isSlot() ? 0 : channels[c].wordAt(k);
    }

    public int current() {
        return sealed ? windowOwners[windowAtHand] : NONE;
    }

    public int ticks() {
        return ticksDone;
    }

    private void refuseIfSealed() {
        if (sealed) {
            throw new IllegalStateException("sealed");
        }
    }

    private void refuseUnlessTold(int p) {
        if (p < 0 || p >= PARTITIONS || !partitions[p].isTold()) {
            throw new IllegalArgumentException("partition not told");
        }
    }

    private boolean isChannel(int c) {
        return c >= 0 && c < CHANNELS && channels[c].isTold;
    }

    private static boolean isInMemory(int base, int length) {
        // The length is held against what is left behind base, as their sum could wrap around.
        return base >= 0 && base < MEMORY_WORDS && length >= 1 && length <= MEMORY_WORDS - base;
    }

    private boolean sharesWord(int base, int length) {
        for (int p = 0; p < PARTITIONS; p++) {
            if (partitions[p].meets(base, length)) {
                return true;
            }
        }
        return false;
    }

    private int addressOf(int p, int i) {
        refuseUnlessTold(p);
        if (!partitions[p].holds(i)) {
            throw new IndexOutOfBoundsException("no such word");
        }
        return partitions[p].base + i;
    }

    private boolean goOneTick() {
        // Counted first: slots' words are older by this tick before its instruction looks at them.
        ticksDone++;
        int owner = windowOwners[windowAtHand];
        boolean busy = owner != NONE && !yielded && partitions[owner].state == READY;
        if (busy) {
            runInstruction(owner);
        }
        moveWindowOn();
        return busy;
    }

    private void moveWindowOn() {
        ticksIntoWindow++;
        if (ticksIntoWindow < windowLengths[windowAtHand]) {
            return;
        }
        ticksIntoWindow = 0;
        yielded = false;
        windowAtHand++;
        if (windowAtHand >= windowCount) {
            windowAtHand = 0;
        }
    }

    private void runInstruction(int p) {
        Partition own = partitions[p];
        int place = own.place;
        int fault = PLACE_FAULT;
        if (own.holds(place)) {
            own.place = place + 1;
            fault = perform(p, memory[own.base + place]);
        }
        if (fault == NO_FAULT) {
            own.done++;
            return;
        }
        own.place = place;
        if (own.restartAfter(fault)) {
            yielded = true;
        }
    }

    /** Answers the fault, in which case only the place has moved. */
    private int perform(int p, int word) {
        Partition own = partitions[p];
        int[] r = own.registers;
        int a = word >> 4 & 3;
        int b = word >> 6 & 3;
        int i = word >> 8;
        switch (word & 15) {
            case 0:
                own.state = HALTED;
                return NO_FAULT;
            case 6:
                return load(own, a, r[b] + i);
            case 7:
                return store(own, a, r[b] + i);
            case 8:
                own.jumpIf(r[a] == 0, i);
                return NO_FAULT;
            case 9:
                own.jumpIf(r[a] < 0, i);
                return NO_FAULT;
            case 10:
                own.place = r[a];
                return NO_FAULT;
            case 11:
                return send(p, a, b, i);
            case 12:
                return take(p, a, b, i);
            case 13:
                yielded = true;
                return NO_FAULT;
            case 14:
                r[a] = own.done;
                return NO_FAULT;
            case 15:
                return CODE_FAULT;
            default:
                r[a] = computed(word & 15, r[a], r[b], i);
                return NO_FAULT;
        }
    }

    private static int computed(int op, int x, int y, int i) {
        switch (op) {
            case 1:
                return i;
            case 2:
                return x + y;
            case 3:
                return x - y;
            case 4:
                return x * y;
            default:
                return x ^ y;
        }
    }

    private int load(Partition own, int a, int at) {
        if (!own.holds(at)) {
            return WORD_FAULT;
        }
        own.registers[a] = memory[own.base + at];
        return NO_FAULT;
    }

    private int store(Partition own, int a, int at) {
        if (!own.holds(at)) {
            return WORD_FAULT;
        }
        memory[own.base + at] = own.registers[a];
        return NO_FAULT;
    }

    private int send(int p, int a, int b, int c) {
        if (!isChannel(c) || channels[c].from != p) {
            return CHANNEL_FAULT;
        }
        int[] r = partitions[p].registers;
        r[b] = channels[c].put(r[a], ticksDone) ? 1 : 0;
        return NO_FAULT;
    }

    private int take(int p, int a, int b, int c) {
        if (!isChannel(c) || channels[c].to != p) {
            return CHANNEL_FAULT;
        }
        Channel channel = channels[c];
        int[] r = partitions[p].registers;
        if (channel.count == 0) {
            r[b] = 0;
            return NO_FAULT;
        }
        r[a] = channel.wordAt(0);
        // Behind ra's, as rb's is the one that stays when both are the same register.
        r[b] = channel.isSlot() ? channel.age(ticksDone) + 1 : 1;
        channel.dropTaken();
        return NO_FAULT;
    }

    private static final class Partition {
        private final int[] registers = new int[REGISTERS];
        private int state;
        private int base;
        private int length;
        private int entry;
        private int place;
        private int done;
        private int restartsLeft;
        private int lastFault;
        private int faults;

        private void tell(int newBase, int newLength, int newEntry, int restarts) {
            state = READY;
            base = newBase;
            length = newLength;
            entry = newEntry;
            place = newEntry;
            restartsLeft = restarts;
        }

        private boolean isTold() {
            return state != NOT_TOLD;
        }

        private boolean holds(int i) {
            return i >= 0 && i < length;
        }

        private boolean meets(int otherBase, int otherLength) {
            return isTold() && otherBase < base + length && base < otherBase + otherLength;
        }

        private void jumpIf(boolean due, int by) {
            if (due) {
                place += by;
            }
        }

        /** Answers whether it begins again; if not, it is faulted. */
        private boolean restartAfter(int fault) {
            lastFault = fault;
            faults++;
            if (restartsLeft == 0) {
                state = FAULTED;
                return false;
            }
            restartsLeft--;
            Arrays.fill(registers, 0);
            place = entry;
            return true;
        }

        private int report(int what) {
            switch (what) {
                case 0:
                    return state;
                case 1:
                    return place;
                case 6:
                    return done;
                case 7:
                    return restartsLeft;
                case 8:
                    return lastFault;
                case 9:
                    return faults;
                default:
                    return what >= 2 && what <= 5 ? registers[what - 2] : 0;
            }
        }
    }

    private static final class Channel {
        private final int[] words = new int[MOST_ROOM];
        private boolean isTold;
        private int from;
        private int to;
        private int room;
        private int first;
        private int count;
        private int cameAt;
        private int came;
        private int refused;

        private void tell(int newFrom, int newTo, int newRoom) {
            isTold = true;
            from = newFrom;
            to = newTo;
            room = newRoom;
        }

        private boolean isSlot() {
            return room == 0;
        }

        /** Answers whether there was room for the word. */
        private boolean put(int word, int now) {
            if (isSlot()) {
                words[0] = word;
                count = 1;
                cameAt = now;
            } else if (count < room) {
                words[spotOf(count)] = word;
                count++;
            } else {
                refused++;
                return false;
            }
            came++;
            return true;
        }

        private void dropTaken() {
            // A slot goes on having the last word that came.
            if (!isSlot() && count > 0) {
                first = spotOf(1);
                count--;
            }
        }

        private int wordAt(int k) {
            return k >= 0 && k < count ? words[spotOf(k)] : 0;
        }

        private int spotOf(int k) {
            // The mask goes round the row, and stays in it for any k, as its length is a power of two.
            return (first + k) & (MOST_ROOM - 1);
        }

        /** Of a slot's word; 0 of queues, whose words have no age. */
        private int age(int now) {
            return isSlot() && count > 0 ? Math.min(now - cameAt, OLDEST) : 0;
        }

        private int report(int what, int now) {
            switch (what) {
                case 0:
                    return count;
                case 1:
                    return wordAt(0);
                case 2:
                    return age(now);
                case 3:
                    return came;
                default:
                    return refused;
            }
        }
    }
}
