import java.util.Arrays;

/** A station that sends frames over a scrambled line of three levels, and one that listens to it. */
public final class ScrambledLine {
    public static final int BAD = -1;
    public static final int FULL = -2;
    public static final int GOOD = 0, NO_START = 1, FAULTY = 2, ODD = 3, SHORT = 4, CHECK = 5, LENGTH = 6,
            OTHER = 7, EARLY = 8, TORN = 9, ABORTED = 10;

    private static final int STATUSES = 11;
    private static final int BYTES = 256;
    private static final int EVERYONE = 255;
    private static final int MOST_BIT_TIMES = 400;

    private static final int MOST_DATA = 24;
    private static final int LEAST_BODY = 6;
    private static final int HEAD_BYTES = 3;
    private static final int CHECK_BYTES = 4;
    private static final int LEAST_BYTES = HEAD_BYTES + LEAST_BODY + CHECK_BYTES;
    private static final int MOST_BYTES = HEAD_BYTES + MOST_DATA + CHECK_BYTES;
    private static final int TARGET_AT = 0, SOURCE_AT = 1, LENGTH_AT = 2;

    private static final int GROUP_BITS = 5;
    private static final int GROUP_I = 31, GROUP_J = 24, GROUP_K = 17, GROUP_T = 13, GROUP_R = 7;
    private static final int[] GROUP_OF_NIBBLE = {30, 9, 20, 21, 10, 11, 14, 15, 18, 19, 22, 23, 26, 27, 28, 29};
    private static final int NO_NIBBLE = -1;
    private static final int[] NIBBLE_OF_GROUP = {
        -1, -1, -1, -1, -1, -1, -1, -1, -1, 1, 4, 5, -1, -1, 6, 7,
        -1, -1, 8, 9, 2, 3, 10, 11, -1, -1, 12, 13, 14, 15, 0, -1};
    private static final int LEAD_NIBBLE = 5, START_NIBBLE = 13;

    private static final int[] LEVELS = {0, 1, 0, -1};
    private static final int LEVELS_AROUND = 4;

    private final Sender sender;
    private final Hits hits;
    private final Listener listener;

    public ScrambledLine(int seed, int source, int target) {
        sender = new Sender(seed, Math.floorMod(source, BYTES));
        hits = new Hits();
        listener = new Listener(Math.floorMod(target, BYTES));
    }

    public int data(int b) {
        return isByte(b) ? sender.outbox.give(b) : BAD;
    }

    public int send(int target) {
        return isByte(target) ? sender.outbox.enqueue(target) : BAD;
    }

    public boolean hit(int k, int l) {
        return hits.place(k, l);
    }

    public int run(int n) {
        if (n < 1 || n > MOST_BIT_TIMES) {
            return BAD;
        }
        int ended = 0;
        for (int i = 0; i < n; i++) {
            sender.sendBit();
            if (listener.hear(hits.passOn(sender.lineLevel()))) {
                ended++;
            }
        }
        return ended;
    }

    public int waiting() {
        return sender.outbox.frameCount;
    }

    public boolean sending() {
        return sender.inFrame;
    }

    public int level() {
        return sender.lineLevel();
    }

    public int register() {
        return sender.scrambler.bits;
    }

    public int state() {
        return listener.mode;
    }

    public int count(int status) {
        return status < 0 || status >= STATUSES ? BAD : listener.inbox.counts[status];
    }

    public int source() {
        return listener.inbox.goodSource;
    }

    public int length() {
        return listener.inbox.goodLength;
    }

    public int byteOf(int i) {
        return listener.inbox.goodByte(i);
    }

    private static boolean isByte(int b) {
        return b >= 0 && b < BYTES;
    }

    /** How many bytes a frame with so many bytes of data has, its check among them. */
    private static int frameSize(int dataCount) {
        return HEAD_BYTES + Math.max(dataCount, LEAST_BODY) + CHECK_BYTES;
    }

    private static int checkOf(int[] row, int size) {
        int c = -1;
        for (int i = 0; i < size && i < row.length; i++) {
            c ^= row[i];
            for (int k = 0; k < 8; k++) {
                c = (c & 1) != 0 ? (c >>> 1) ^ -306674912 : c >>> 1;
            }
        }
        return ~c;
    }

    /** The register that both ends keep; what is shifted in differs, so the callers choose it. */
    private static final class Scrambler {
        private static final int SIZE = 2048;
        private int bits;

        Scrambler(int bits) {
            this.bits = bits;
        }

        int key() {
            return ((bits >>> 8) ^ (bits >>> 10)) & 1;
        }

        void shiftIn(int bit) {
            bits = (2 * bits + bit) % SIZE;
        }
    }

    /** The data given for the next frame, and the frames that wait, each as its row of bytes. */
    private static final class Outbox {
        private static final int MOST_FRAMES = 4;
        private final int address;
        private final int[] given = new int[MOST_DATA];
        private int givenCount = 0;
        private final int[][] frames = new int[MOST_FRAMES][MOST_BYTES];
        private int firstFrame = 0;
        private int frameCount = 0;

        Outbox(int address) {
            this.address = address;
        }

        int give(int b) {
            if (givenCount >= MOST_DATA) {
                return FULL;
            }
            given[givenCount] = b;
            givenCount++;
            return givenCount;
        }

        int enqueue(int target) {
            if (frameCount >= MOST_FRAMES) {
                return FULL;
            }
            fillFrame(frames[(firstFrame + frameCount) % MOST_FRAMES], target);
            givenCount = 0;
            frameCount++;
            return frameCount;
        }

        private void fillFrame(int[] frame, int target) {
            int checkAt = frameSize(givenCount) - CHECK_BYTES;
            frame[TARGET_AT] = target;
            frame[SOURCE_AT] = address;
            frame[LENGTH_AT] = givenCount;
            System.arraycopy(given, 0, frame, HEAD_BYTES, givenCount);
            // The row may still hold an earlier frame's bytes where this one is padded.
            Arrays.fill(frame, HEAD_BYTES + givenCount, checkAt, 0);
            int check = checkOf(frame, checkAt);
            for (int i = 0; i < CHECK_BYTES; i++) {
                frame[checkAt + i] = (check >>> (8 * i)) & 255;
            }
        }

        /** The frame that waited longest; its row is only safe to read until the next one is enqueued. */
        int[] takeFirst() {
            int[] frame = frames[firstFrame];
            firstFrame = (firstFrame + 1) % MOST_FRAMES;
            frameCount--;
            return frame;
        }
    }

    /** Puts one bit on the line in each bit time: a frame's groups, or idle between frames. */
    private static final class Sender {
        private static final int LEAST_IDLES = 6;
        private static final int MOST_GROUPS = 2 + 4 + 2 * MOST_BYTES + 2;
        private final Outbox outbox;
        private final Scrambler scrambler;
        private final int[] groups = new int[MOST_GROUPS];
        private int groupCount = 0;
        private int groupsSent = 0;
        private boolean inFrame = false;
        private int idles = 0;
        private int group = GROUP_I;
        private int bitsLeft = 0;
        private int levelAt = 0;

        Sender(int seed, int address) {
            int start = Math.floorMod(seed, Scrambler.SIZE);
            scrambler = new Scrambler(start == 0 ? 1 : start);
            outbox = new Outbox(address);
        }

        int lineLevel() {
            return LEVELS[levelAt];
        }

        void sendBit() {
            // Chosen only now, so that a frame given between two groups is not begun before its first bit.
            if (bitsLeft == 0) {
                chooseGroup();
            }
            bitsLeft--;
            int bit = (group >>> bitsLeft) & 1;
            int key = scrambler.key();
            scrambler.shiftIn(key);
            levelAt = (levelAt + (bit ^ key)) % LEVELS_AROUND;
            if (bitsLeft == 0) {
                noteGroupSent();
            }
        }

        private void chooseGroup() {
            if (!inFrame && idles >= LEAST_IDLES && outbox.frameCount > 0) {
                beginFrame(outbox.takeFirst());
            }
            group = inFrame && groupsSent < MOST_GROUPS ? groups[groupsSent] : GROUP_I;
            bitsLeft = GROUP_BITS;
        }

        private void noteGroupSent() {
            if (!inFrame) {
                idles = Math.min(idles + 1, LEAST_IDLES);
                return;
            }
            groupsSent++;
            if (groupsSent >= groupCount) {
                inFrame = false;
                idles = 0;
            }
        }

        private void beginFrame(int[] frame) {
            inFrame = true;
            groupsSent = 0;
            groupCount = 0;
            addGroup(GROUP_J);
            addGroup(GROUP_K);
            for (int i = 0; i < 3; i++) {
                addGroup(GROUP_OF_NIBBLE[LEAD_NIBBLE]);
            }
            addGroup(GROUP_OF_NIBBLE[START_NIBBLE]);
            int size = frameSize(frame[LENGTH_AT]);
            for (int i = 0; i < size && i < frame.length; i++) {
                addGroup(GROUP_OF_NIBBLE[frame[i] & 15]);
                addGroup(GROUP_OF_NIBBLE[(frame[i] >>> 4) & 15]);
            }
            addGroup(GROUP_T);
            addGroup(GROUP_R);
        }

        private void addGroup(int added) {
            if (groupCount < MOST_GROUPS) {
                groups[groupCount] = added;
                groupCount++;
            }
        }
    }

    /** The levels that are put in the place of the line's own, for the bit times to come. */
    private static final class Hits {
        private static final int FARTHEST = 100;
        private static final int NO_HIT = 2;
        private final int[] levels = new int[FARTHEST];
        private int next = 0;

        Hits() {
            Arrays.fill(levels, NO_HIT);
        }

        boolean place(int k, int l) {
            if (k < 1 || k > FARTHEST || l < -1 || l > 1) {
                return false;
            }
            levels[(next + k - 1) % FARTHEST] = l;
            return true;
        }

        /** What the listener gets in this bit time; the slot is then free for a later one. */
        int passOn(int lineLevel) {
            int hitLevel = levels[next];
            levels[next] = NO_HIT;
            next = (next + 1) % FARTHEST;
            return hitLevel == NO_HIT ? lineLevel : hitLevel;
        }
    }

    /** Follows the line's levels: finds the scrambler's place, then the frames. */
    private static final class Listener {
        private static final int UNLOCKED = 0, HUNTING = 1, READING = 2;
        private static final int RUN_TO_LOCK = 30;
        private static final int ONES_OF_IDLE = 10;
        private static final int QUIET_TO_LOSE = 400;
        private static final int HUNTED = (GROUP_J << GROUP_BITS) | GROUP_K;
        private static final int HUNT_SIZE = 1 << (2 * GROUP_BITS);
        private final Scrambler scrambler = new Scrambler(0);
        private final Reader reader;
        private final Inbox inbox = new Inbox();
        private int mode = UNLOCKED;
        private int levelBefore = 0;
        private int runOfKeys = 0;
        private int ones = 0;
        private int quiet = 0;
        private int lastBits = 0;

        Listener(int address) {
            reader = new Reader(address);
        }

        /** Whether a frame ended with this level. */
        boolean hear(int heard) {
            int mark = heard != levelBefore ? 1 : 0;
            levelBefore = heard;
            if (mode == UNLOCKED) {
                seekLock(mark);
                return false;
            }
            int status = follow(mark);
            if (status == Reader.GOES_ON) {
                return false;
            }
            inbox.note(status, reader.bytes);
            return true;
        }

        private void seekLock(int mark) {
            int idleKey = mark ^ 1;
            runOfKeys = scrambler.key() == idleKey ? runOfKeys + 1 : 0;
            scrambler.shiftIn(idleKey);
            if (runOfKeys >= RUN_TO_LOCK) {
                quiet = 0;
                ones = 0;
                beginHunt();
            }
        }

        private void beginHunt() {
            mode = HUNTING;
            // J begins with a 1, so these zeros can't be taken for bits of a mark.
            lastBits = 0;
        }

        /** The status of the frame that ended with this mark, or that none did. */
        private int follow(int mark) {
            int key = scrambler.key();
            int plain = mark ^ key;
            scrambler.shiftIn(key);
            countQuiet(plain);
            if (quiet >= QUIET_TO_LOSE) {
                return loseLock();
            }
            if (mode == HUNTING) {
                hunt(plain);
                return Reader.GOES_ON;
            }
            int status = reader.takeBit(plain);
            if (status != Reader.GOES_ON) {
                beginHunt();
            }
            return status;
        }

        private void countQuiet(int plain) {
            ones = plain == 1 ? Math.min(ones + 1, ONES_OF_IDLE) : 0;
            quiet = ones >= ONES_OF_IDLE ? 0 : quiet + 1;
        }

        private int loseLock() {
            boolean wasReading = mode == READING;
            mode = UNLOCKED;
            runOfKeys = 0;
            return wasReading ? ABORTED : Reader.GOES_ON;
        }

        private void hunt(int plain) {
            lastBits = (2 * lastBits + plain) % HUNT_SIZE;
            if (lastBits == HUNTED) {
                mode = READING;
                reader.begin();
            }
        }
    }

    /** Puts a frame's bits together again and judges it when it ends. */
    private static final class Reader {
        private static final int GOES_ON = -1;
        /** The lock is lost before a frame without idle in it could be read for 400 bits: 80 groups. */
        private static final int MOST_NIBBLES = 80;
        private final int address;
        private final int[] bytes = new int[MOST_NIBBLES / 2];
        private int nibbles = 0;
        private int group = 0;
        private int groupBits = 0;
        private boolean started = false;
        private boolean fault = false;
        private boolean behindT = false;

        Reader(int address) {
            this.address = address;
        }

        void begin() {
            nibbles = 0;
            group = 0;
            groupBits = 0;
            started = false;
            fault = false;
            behindT = false;
        }

        /** The frame's status if it ends with this bit, otherwise GOES_ON. */
        int takeBit(int bit) {
            group = 2 * group + bit;
            groupBits++;
            if (groupBits < GROUP_BITS) {
                return GOES_ON;
            }
            int whole = group;
            group = 0;
            groupBits = 0;
            return takeGroup(whole);
        }

        private int takeGroup(int whole) {
            if (behindT) {
                return whole == GROUP_R ? judge() : TORN;
            }
            if (whole == GROUP_I) {
                return EARLY;
            }
            if (whole == GROUP_T) {
                behindT = true;
            } else {
                takeNibble(NIBBLE_OF_GROUP[whole & 31]);
            }
            return GOES_ON;
        }

        private void takeNibble(int nibble) {
            if (nibble == NO_NIBBLE) {
                fault = true;
            } else if (started) {
                keepNibble(nibble);
            } else if (nibble == START_NIBBLE) {
                started = true;
            } else if (nibble != LEAD_NIBBLE) {
                fault = true;
            }
        }

        private void keepNibble(int nibble) {
            if (nibbles >= MOST_NIBBLES) {
                return;
            }
            int at = nibbles / 2;
            bytes[at] = nibbles % 2 == 0 ? nibble : bytes[at] + 16 * nibble;
            nibbles++;
        }

        private int judge() {
            int size = nibbles / 2;
            if (!started) {
                return NO_START;
            }
            if (fault) {
                return FAULTY;
            }
            if (nibbles % 2 != 0) {
                return ODD;
            }
            if (size < LEAST_BYTES) {
                return SHORT;
            }
            if (checkRead(size - CHECK_BYTES) != checkOf(bytes, size - CHECK_BYTES)) {
                return CHECK;
            }
            if (bytes[LENGTH_AT] > MOST_DATA || size != frameSize(bytes[LENGTH_AT])) {
                return LENGTH;
            }
            return bytes[TARGET_AT] == address || bytes[TARGET_AT] == EVERYONE ? GOOD : OTHER;
        }

        private int checkRead(int at) {
            int check = 0;
            for (int i = CHECK_BYTES - 1; i >= 0; i--) {
                check = (check << 8) | bytes[at + i];
            }
            return check;
        }
    }

    /** How the frames ended, and what the latest good one held. */
    private static final class Inbox {
        private final int[] counts = new int[STATUSES];
        private final int[] goodData = new int[MOST_DATA];
        private int goodSource = BAD;
        private int goodLength = BAD;

        void note(int status, int[] frame) {
            counts[status]++;
            if (status == GOOD) {
                goodSource = frame[SOURCE_AT];
                goodLength = Math.min(frame[LENGTH_AT], MOST_DATA);
                System.arraycopy(frame, HEAD_BYTES, goodData, 0, goodLength);
            }
        }

        int goodByte(int i) {
            return i < 0 || i >= goodLength ? BAD : goodData[i];
        }
    }
}
