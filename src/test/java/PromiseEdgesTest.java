/** The edges that promises 1 to 14 name: one test for each sentence. */
public final class PromiseEdgesTest {
    private static final Expect EXPECT = new Expect();
    private static final int BAD = ScrambledLine.BAD;
    private static final int FULL = ScrambledLine.FULL;
    private static final int GOOD = ScrambledLine.GOOD;
    private static final int SEED = 600;
    private static final int SOURCE = 21;
    private static final int ADDRESS = 90;
    /** The bits of a frame with up to six bytes of data, and of one with 24. */
    private static final int LEAST_BITS = 170, MOST_BITS = 350;

    public static void main(String[] args) {
        seedModulo2048();
        seedOfZero();
        sourceModulo256();
        targetModulo256();
        newWithoutData();
        newWithoutFrames();
        newWithoutIdle();
        newWithoutLock();

        dataCounts();
        dataBad();
        dataFull();
        dataBadWhenFull();

        sendWithoutData();
        sendCounts();
        sendTakesTheData();
        sendBadLeavesTheData();
        sendFullLeavesTheData();
        sendBad();
        sendFull();
        sendBadWhenFull();

        hitInTheNextBitTime();
        hitInTheFarthestBitTime();
        hitInItsBitTimeAlone();
        secondHit();
        hitRefused();
        refusedHitChangesNothing();

        runOfOneAnd400();
        runCountsFrames();
        runCountsAborted();
        runBad();
        badRunChangesNothing();

        waitingFromZeroToFour();
        sendingFromFirstBitToLast();
        levelOfTheLine();
        registerOfTheSender();
        stateOfTheListener();

        countBad();
        countOfEachStatus();

        noGoodFrame();
        sourceEdges();
        lengthEdges();
        bytesOfTheData();
        noSuchByte();
        latestOfSeveral();
        spoiltFramesAreNotTheLatest();

        callsUpTo512();
        objectsSideBySide();
        EXPECT.end();
    }

    private static ScrambledLine line() {
        return new ScrambledLine(SEED, SOURCE, ADDRESS);
    }

    /** A station whose listener has locked. */
    private static ScrambledLine idling() {
        ScrambledLine x = line();
        x.run(100);
        return x;
    }

    private static void give(ScrambledLine x, int count, int first) {
        for (int i = 0; i < count; i++) {
            x.data((first + i) % 256);
        }
    }

    private static void good(ScrambledLine x, String what, int length, int first) {
        EXPECT.same(what + ": length", x.length(), length);
        for (int i = 0; i < length; i++) {
            EXPECT.same(what + ": byte " + i, x.byteOf(i), (first + i) % 256);
        }
        EXPECT.same(what + ": no byte more", x.byteOf(length), BAD);
    }

    // Promise 1

    private static void seedModulo2048() {
        EXPECT.about("The sender's register is seed modulo 2048 (from 0 on)");
        int[][] seedAndDue = {{1, 1}, {2, 2}, {2046, 2046}, {2047, 2047}, {2049, 1}, {2050, 2}, {4095, 2047}, {-1, 2047},
            {-2, 2046}, {-2047, 1}, {-2049, 2047}, {Integer.MAX_VALUE, 2047}, {Integer.MIN_VALUE + 1, 1}};
        for (int[] pair : seedAndDue) {
            ScrambledLine x = new ScrambledLine(pair[0], 1, 1);
            EXPECT.same("seed " + pair[0], x.register(), pair[1]);
            x.run(400);
            EXPECT.same("seed " + pair[0] + " 400 bit times on", x.register(), Tap.registerAt(pair[1], 400));
        }
    }

    private static void seedOfZero() {
        EXPECT.about("but 1 if that is 0");
        int[] seeds = {0, 2048, -2048, 4096, Integer.MIN_VALUE};
        for (int seed : seeds) {
            EXPECT.same("seed " + seed, new ScrambledLine(seed, 1, 1).register(), 1);
        }
    }

    private static final int[][] ADDRESSES = {{0, 0}, {1, 1}, {254, 254}, {255, 255}, {256, 0}, {257, 1}, {511, 255},
        {-1, 255}, {-2, 254}, {-255, 1}, {-256, 0}, {-257, 255}, {Integer.MIN_VALUE, 0}, {Integer.MAX_VALUE, 255}};

    private static void sourceModulo256() {
        EXPECT.about("its address source modulo 256");
        for (int[] pair : ADDRESSES) {
            ScrambledLine x = new ScrambledLine(SEED, pair[0], ADDRESS);
            x.run(100);
            x.send(ADDRESS);
            x.run(LEAST_BITS);
            EXPECT.same("source " + pair[0], x.source(), pair[1]);
        }
    }

    private static void targetModulo256() {
        EXPECT.about("the listener's target modulo 256 (both from 0 on)");
        for (int[] pair : ADDRESSES) {
            ScrambledLine x = new ScrambledLine(SEED, 1, pair[0]);
            x.run(100);
            x.send(pair[1]);
            x.run(LEAST_BITS + 30);
            EXPECT.same("target " + pair[0] + ": its own", x.count(GOOD), 1);
            x.send((pair[1] + 1) % 255);
            x.run(LEAST_BITS);
            EXPECT.same("target " + pair[0] + ": another's", x.count(ScrambledLine.OTHER), 1);
        }
    }

    private static void newWithoutData() {
        EXPECT.about("No data is given");
        EXPECT.same("the first byte", line().data(7), 1);
        ScrambledLine x = idling();
        x.send(ADDRESS);
        x.run(LEAST_BITS);
        EXPECT.same("a frame's length", x.length(), 0);
    }

    private static void newWithoutFrames() {
        EXPECT.about("no frame waits");
        ScrambledLine x = line();
        EXPECT.same("waiting", x.waiting(), 0);
        EXPECT.no("sending", x.sending());
        EXPECT.same("a frame", x.send(ADDRESS), 1);
    }

    private static void newWithoutIdle() {
        EXPECT.about("no I was sent");
        ScrambledLine x = line();
        x.send(ADDRESS);
        x.run(30);
        EXPECT.no("six I go first", x.sending());
        x.run(1);
        EXPECT.yes("six are enough", x.sending());
    }

    private static void newWithoutLock() {
        EXPECT.about("the listener is not locked, its run is 0");
        EXPECT.same("state", line().state(), 0);
        Forger f = Forger.fresh(line());
        f.marks("+".repeat(29));
        EXPECT.same("a run of 29", f.x.state(), 0);
        f.marks("+");
        EXPECT.same("a run of 30", f.x.state(), 1);
    }

    // Promise 2

    private static void dataCounts() {
        EXPECT.about("A byte of data is given for the next frame: how many there are then.");
        ScrambledLine x = idling();
        for (int i = 1; i <= 24; i++) {
            EXPECT.same("byte " + i, x.data(200 + i), i);
        }
        EXPECT.same("given is not sent", x.waiting(), 0);
        x.send(ADDRESS);
        x.run(MOST_BITS);
        good(x, "all of them", 24, 201);
    }

    private static void dataBad() {
        EXPECT.about("BAD when b is not 0 .. 255");
        int[] bad = {-1, 256, -256, 257, Integer.MIN_VALUE, Integer.MAX_VALUE};
        ScrambledLine x = idling();
        for (int b : bad) {
            EXPECT.same("data(" + b + "), none given", x.data(b), BAD);
        }
        EXPECT.same("data(0)", x.data(0), 1);
        for (int b : bad) {
            EXPECT.same("data(" + b + "), one given", x.data(b), BAD);
        }
        EXPECT.same("data(255)", x.data(255), 2);
        x.data(256);
        x.send(ADDRESS);
        x.run(LEAST_BITS);
        EXPECT.same("what was bad is not in the frame", x.length(), 2);
        EXPECT.same("0 is", x.byteOf(0), 0);
        EXPECT.same("255 is", x.byteOf(1), 255);
    }

    private static void dataFull() {
        EXPECT.about("FULL when there are 24");
        ScrambledLine x = idling();
        give(x, 23, 5);
        EXPECT.same("the 24th", x.data(28), 24);
        EXPECT.same("the 25th", x.data(99), FULL);
        EXPECT.same("once more", x.data(0), FULL);
        x.send(ADDRESS);
        EXPECT.same("room again behind send", x.data(77), 1);
        x.run(MOST_BITS);
        good(x, "the first 24", 24, 5);
        give(x, 22, 78);
        EXPECT.same("the 24th of the next frame", x.data(100), 24);
        EXPECT.same("the 25th of the next frame", x.data(101), FULL);
        x.send(ADDRESS);
        x.run(MOST_BITS + 30);
        good(x, "the next 24", 24, 77);
    }

    /** The document does not say which goes first; BAD is named first, and is what is wrong with the call itself. */
    private static void dataBadWhenFull() {
        EXPECT.about("BAD when b is not 0 .. 255; FULL when there are 24.");
        ScrambledLine x = line();
        give(x, 24, 0);
        EXPECT.same("256 as the 25th", x.data(256), BAD);
        EXPECT.same("-1 as the 25th", x.data(-1), BAD);
    }

    // Promise 3

    private static void sendWithoutData() {
        EXPECT.about("A frame to a target with the data that is given (perhaps none) waits");
        ScrambledLine x = idling();
        EXPECT.same("without data", x.send(ADDRESS), 1);
        x.run(LEAST_BITS);
        good(x, "none", 0, 0);
        give(x, 24, 40);
        EXPECT.same("with all that can be", x.send(ADDRESS), 1);
        x.run(30 + MOST_BITS);
        good(x, "24", 24, 40);
    }

    private static void sendCounts() {
        EXPECT.about("how many wait then");
        ScrambledLine x = idling();
        for (int i = 1; i <= 4; i++) {
            EXPECT.same("frame " + i, x.send(ADDRESS), i);
        }
        // The first goes out: three are left, and one more makes four again.
        x.run(1);
        EXPECT.same("behind the first bit", x.send(ADDRESS), 4);
        x.run(LEAST_BITS + 30 + LEAST_BITS + 30);
        EXPECT.same("behind two more", x.send(ADDRESS), 3);
    }

    private static void sendTakesTheData() {
        EXPECT.about("no data is given any more");
        ScrambledLine x = idling();
        give(x, 3, 50);
        x.send(ADDRESS);
        x.send(ADDRESS);
        x.run(LEAST_BITS);
        good(x, "the first", 3, 50);
        x.run(30 + LEAST_BITS);
        good(x, "the second", 0, 0);
        EXPECT.same("counted anew", x.data(1), 1);
    }

    private static void sendBadLeavesTheData() {
        EXPECT.about("(but behind BAD and FULL it stays)");
        ScrambledLine x = idling();
        give(x, 3, 50);
        EXPECT.same("too large", x.send(256), BAD);
        EXPECT.same("too small", x.send(-1), BAD);
        EXPECT.same("one more", x.data(53), 4);
        x.send(ADDRESS);
        x.run(LEAST_BITS);
        good(x, "behind BAD", 4, 50);
        give(x, 24, 60);
        EXPECT.same("24 of them", x.send(256), BAD);
        EXPECT.same("stay 24", x.data(1), FULL);
    }

    private static void sendFullLeavesTheData() {
        EXPECT.about("(but behind BAD and FULL it stays)");
        ScrambledLine x = idling();
        for (int i = 0; i < 4; i++) {
            x.send(1);
        }
        give(x, 3, 50);
        EXPECT.same("a fifth", x.send(ADDRESS), FULL);
        EXPECT.same("one more", x.data(53), 4);
        x.run(1);
        EXPECT.same("there is room", x.send(ADDRESS), 4);
        EXPECT.same("now it is gone", x.data(9), 1);
        Tap.go(x, 5 * (LEAST_BITS + 30));
        EXPECT.same("one for the listener", x.count(GOOD), 1);
        EXPECT.same("four for others", x.count(ScrambledLine.OTHER), 4);
        good(x, "behind FULL", 4, 50);
    }

    private static void sendBad() {
        EXPECT.about("BAD when target is not 0 .. 255");
        int[] bad = {-1, 256, -255, 511, Integer.MIN_VALUE, Integer.MAX_VALUE};
        ScrambledLine x = new ScrambledLine(SEED, SOURCE, 0);
        x.run(100);
        for (int target : bad) {
            EXPECT.same("send(" + target + ")", x.send(target), BAD);
        }
        EXPECT.same("none waits", x.waiting(), 0);
        EXPECT.same("send(0)", x.send(0), 1);
        EXPECT.same("send(255)", x.send(255), 2);
        EXPECT.same("send(254)", x.send(254), 3);
        Tap.go(x, 3 * (LEAST_BITS + 30));
        EXPECT.same("to 0 and to 255", x.count(GOOD), 2);
        EXPECT.same("to 254", x.count(ScrambledLine.OTHER), 1);
    }

    private static void sendFull() {
        EXPECT.about("FULL when 4 wait");
        ScrambledLine x = line();
        for (int i = 0; i < 4; i++) {
            x.send(ADDRESS);
        }
        EXPECT.same("a fifth", x.send(ADDRESS), FULL);
        EXPECT.same("a fifth to another", x.send(0), FULL);
        EXPECT.same("four wait", x.waiting(), 4);
        x.run(30);
        EXPECT.same("four until a bit of the first is out", x.send(ADDRESS), FULL);
        x.run(1);
        EXPECT.same("three then", x.send(ADDRESS), 4);
        EXPECT.same("four once more", x.send(ADDRESS), FULL);
    }

    /** As with data: BAD is named first. */
    private static void sendBadWhenFull() {
        EXPECT.about("BAD when target is not 0 .. 255; FULL when 4 wait.");
        ScrambledLine x = line();
        for (int i = 0; i < 4; i++) {
            x.send(ADDRESS);
        }
        EXPECT.same("256 as the fifth", x.send(256), BAD);
        EXPECT.same("-1 as the fifth", x.send(-1), BAD);
    }

    // Promise 4

    /** A station whose frame's last bit, which makes or spoils R, goes out in the k-th bit time from now. */
    private static ScrambledLine endingIn(int k) {
        return endingIn(k, 0);
    }

    /** The same with a frame that begins so much later. */
    private static ScrambledLine endingIn(int k, int later) {
        ScrambledLine x = idling();
        Tap.go(x, later);
        x.send(ADDRESS);
        x.run(LEAST_BITS - k);
        return x;
    }

    private static int levelIn(int lastBitIn, int later, int k) {
        ScrambledLine twin = endingIn(lastBitIn, later);
        Tap.go(twin, k);
        return twin.level();
    }

    /** The level that makes a mark of none, or none of a mark, in the k-th bit time of such a station. */
    private static int wrongLevel(int lastBitIn, int later, int k) {
        int before = levelIn(lastBitIn, later, k - 1);
        return levelIn(lastBitIn, later, k) != before ? before : before == 0 ? 1 : 0;
    }

    private static int wrongLevel(int lastBitIn, int k) {
        return wrongLevel(lastBitIn, 0, k);
    }

    private static int levelIn(int lastBitIn, int k) {
        return levelIn(lastBitIn, 0, k);
    }

    private static void endsAs(String what, ScrambledLine x, int lastBitIn, int status) {
        EXPECT.same(what + ": the frame ends", x.run(lastBitIn), 1);
        EXPECT.same(what + ": its status", x.count(status), 1);
    }

    private static void hitInTheNextBitTime() {
        EXPECT.about("the k-th bit time from now (1 is the next one)");
        ScrambledLine x = endingIn(1);
        EXPECT.yes("hit(1, ..)", x.hit(1, wrongLevel(1, 1)));
        endsAs("in the next", x, 1, ScrambledLine.TORN);
        ScrambledLine y = endingIn(1);
        EXPECT.yes("hit(2, ..)", y.hit(2, wrongLevel(1, 2)));
        endsAs("in the one behind it", y, 1, GOOD);
    }

    private static void hitInTheFarthestBitTime() {
        EXPECT.about("False, changing nothing, when k is not 1 .. 100");
        ScrambledLine x = endingIn(100);
        EXPECT.yes("hit(100, ..)", x.hit(100, wrongLevel(100, 100)));
        endsAs("in the 100th", x, 100, ScrambledLine.TORN);
        ScrambledLine y = endingIn(99);
        EXPECT.yes("hit(100, ..)", y.hit(100, wrongLevel(99, 100)));
        endsAs("behind the 99th", y, 99, GOOD);
        ScrambledLine z = endingIn(101);
        EXPECT.yes("hit(100, ..)", z.hit(100, wrongLevel(101, 100)));
        endsAs("before the 101st", z, 101, ScrambledLine.TORN);
    }

    /** Wherever the bit times stand, a hit is heard in its own and in no other, not 100 later either. */
    private static void hitInItsBitTimeAlone() {
        EXPECT.about("The level that the listener gets in the k-th bit time from now (1 is the next one) is a hit, l.");
        for (int k = 1; k <= 100; k++) {
            ScrambledLine x = endingIn(k);
            x.hit(k, wrongLevel(k, k));
            endsAs("last bit and hit in " + k, x, k, ScrambledLine.TORN);
        }
        for (int later = 5; later <= 100; later += 5) {
            for (int k = 1; k <= 100; k += 99) {
                ScrambledLine x = endingIn(k, later);
                x.hit(k, wrongLevel(k, later, k));
                endsAs("hit in " + k + ", a frame " + later + " later", x, k, ScrambledLine.TORN);
            }
        }
        ScrambledLine x = idling();
        for (int k = 1; k <= 100; k++) {
            x.hit(k, k % 3 - 1);
        }
        x.run(100);
        int ended = x.run(100) + x.run(400);
        x.send(ADDRESS);
        EXPECT.same("a frame behind 100 hits", x.run(LEAST_BITS + 4), 1);
        EXPECT.same("is good", x.count(GOOD), 1);
        EXPECT.same("nothing ended before it", ended, 0);
    }

    private static void secondHit() {
        EXPECT.about("(A second hit takes the place of the first one of the same bit time.)");
        ScrambledLine x = endingIn(50);
        x.hit(50, wrongLevel(50, 50));
        EXPECT.yes("a second one", x.hit(50, levelIn(50, 50)));
        endsAs("the line's own level", x, 50, GOOD);
        ScrambledLine y = endingIn(50);
        y.hit(50, levelIn(50, 50));
        EXPECT.yes("a second one", y.hit(50, wrongLevel(50, 50)));
        endsAs("another level", y, 50, ScrambledLine.TORN);
        ScrambledLine z = endingIn(100);
        z.hit(100, wrongLevel(100, 100));
        z.run(99);
        EXPECT.yes("the same bit time, 99 later", z.hit(1, levelIn(100, 100)));
        endsAs("the second one, 99 later", z, 1, GOOD);
    }

    private static void hitRefused() {
        EXPECT.about("when k is not 1 .. 100 or l not -1 .. 1");
        int[] wrongTimes = {0, -1, -99, -100, 101, 200, Integer.MIN_VALUE, Integer.MAX_VALUE};
        int[] wrongLevels = {-2, 2, 3, 255, Integer.MIN_VALUE, Integer.MAX_VALUE};
        ScrambledLine x = line();
        for (int k : wrongTimes) {
            for (int l = -1; l <= 1; l++) {
                EXPECT.no("hit(" + k + ", " + l + ")", x.hit(k, l));
            }
            EXPECT.no("hit(" + k + ", 2)", x.hit(k, 2));
        }
        for (int l : wrongLevels) {
            EXPECT.no("hit(1, " + l + ")", x.hit(1, l));
            EXPECT.no("hit(100, " + l + ")", x.hit(100, l));
        }
        for (int l = -1; l <= 1; l++) {
            EXPECT.yes("hit(1, " + l + ")", x.hit(1, l));
            EXPECT.yes("hit(100, " + l + ")", x.hit(100, l));
        }
    }

    private static void refusedHitChangesNothing() {
        EXPECT.about("False, changing nothing");
        int[] times = {1, 100};
        for (int k : times) {
            ScrambledLine x = endingIn(k);
            refusedHits(x);
            endsAs("no hit in " + k, x, k, GOOD);
            ScrambledLine y = endingIn(k);
            y.hit(k, wrongLevel(k, k));
            refusedHits(y);
            endsAs("the hit in " + k + " stays", y, k, ScrambledLine.TORN);
        }
    }

    private static void refusedHits(ScrambledLine x) {
        int[] wrongTimes = {0, 101, -99, 200, 201};
        for (int k : wrongTimes) {
            for (int l = -1; l <= 1; l++) {
                x.hit(k, l);
            }
        }
        for (int k = 1; k <= 100; k += 33) {
            x.hit(k, 2);
            x.hit(k, -2);
        }
    }

    // Promise 5

    private static void runOfOneAnd400() {
        EXPECT.about("So many bit times go by");
        ScrambledLine x = line();
        EXPECT.same("run(1)", x.run(1), 0);
        EXPECT.same("one bit time", x.register(), Tap.registerAt(SEED, 1));
        EXPECT.same("run(400)", x.run(400), 0);
        EXPECT.same("401 bit times", x.register(), Tap.registerAt(SEED, 401));
        EXPECT.same("run(399)", x.run(399), 0);
        EXPECT.same("800 bit times", x.register(), Tap.registerAt(SEED, 800));
    }

    private static void runCountsFrames() {
        EXPECT.about("how many frames ended at the listener meanwhile");
        ScrambledLine x = idling();
        EXPECT.same("none", x.run(400), 0);
        x.send(ADDRESS);
        EXPECT.same("all but its last bit", x.run(LEAST_BITS - 1), 0);
        EXPECT.same("its last bit", x.run(1), 1);
        EXPECT.same("the bit behind it", x.run(1), 0);
        x.send(ADDRESS);
        x.send(1);
        EXPECT.same("two, the second up to its last bit", x.run(29 + 2 * LEAST_BITS + 30), 2);
        x.send(ADDRESS);
        x.send(ADDRESS);
        EXPECT.same("two but for the last bit", x.run(30 + 2 * LEAST_BITS + 30 - 1), 1);
        EXPECT.same("the last bit", x.run(1), 1);
        // A frame that ends at once takes 15 bits.
        EXPECT.same("six in 90 bits", Forger.locked(line()).plain((Bits.JK + Bits.I).repeat(6)), 6);
        // One that no listener heard, being not locked, ended nowhere.
        ScrambledLine y = line();
        y.hit(25, 0);
        y.hit(26, 1);
        y.hit(27, -1);
        y.hit(28, 1);
        y.send(ADDRESS);
        EXPECT.same("not locked when it came", y.run(30 + LEAST_BITS), 0);
    }

    private static void runCountsAborted() {
        EXPECT.about("(those that were ABORTED too)");
        Forger f = Forger.justLocked(line());
        EXPECT.same("reading", f.plain(Bits.JK + "0".repeat(389)), 0);
        EXPECT.same("the lock is lost", f.plain("0"), 1);
        EXPECT.same("aborted", f.x.count(ScrambledLine.ABORTED), 1);
        Forger g = Forger.justLocked(line());
        EXPECT.same("hunting, the lock is lost", g.plain("0".repeat(400)), 0);
    }

    private static final int[] BAD_RUNS = {0, -1, 401, -400, 800, Integer.MIN_VALUE, Integer.MAX_VALUE};

    private static void runBad() {
        EXPECT.about("BAD, changing nothing, when n is not 1 .. 400");
        ScrambledLine x = line();
        for (int n : BAD_RUNS) {
            EXPECT.same("run(" + n + ")", x.run(n), BAD);
        }
    }

    private static void badRunChangesNothing() {
        EXPECT.about("BAD, changing nothing");
        ScrambledLine x = endingIn(3);
        x.send(ADDRESS);
        x.data(5);
        x.hit(3, wrongLevel(3, 3));
        String before = looks(x);
        for (int n : BAD_RUNS) {
            x.run(n);
            EXPECT.same("behind run(" + n + ")", looks(x), before);
        }
        EXPECT.same("the data is still given", x.data(6), 2);
        // Two bit times too many or too few, and the hit would not be on the frame's last bit.
        endsAs("the hit is in its place", x, 3, ScrambledLine.TORN);
        EXPECT.same("the other frame still waits", x.waiting(), 1);
    }

    private static String looks(ScrambledLine x) {
        StringBuilder text = new StringBuilder();
        text.append(x.waiting()).append(x.sending()).append(x.level()).append(' ').append(x.register());
        text.append(' ').append(x.state()).append(x.source()).append(x.length()).append(x.byteOf(0));
        for (int status = 0; status <= 10; status++) {
            text.append(' ').append(x.count(status));
        }
        return text.toString();
    }

    // Promises 6 to 10

    private static void waitingFromZeroToFour() {
        EXPECT.about("How many frames wait.");
        ScrambledLine x = idling();
        EXPECT.same("none", x.waiting(), 0);
        for (int i = 1; i <= 4; i++) {
            x.send(ADDRESS);
            EXPECT.same("given " + i, x.waiting(), i);
        }
        x.send(ADDRESS);
        EXPECT.same("a fifth was refused", x.waiting(), 4);
        x.send(256);
        EXPECT.same("a bad one was refused", x.waiting(), 4);
        for (int i = 3; i >= 0; i--) {
            x.run(1);
            EXPECT.same("the first bit of one is out", x.waiting(), i);
            x.run(LEAST_BITS + 30 - 1);
            EXPECT.same("the next one still waits", x.waiting(), i);
        }
        x.run(400);
        EXPECT.same("none again", x.waiting(), 0);
    }

    private static void sendingFromFirstBitToLast() {
        EXPECT.about("some bit of it has gone out, but not all");
        int[] sizes = {0, 6, 7, 24};
        for (int size : sizes) {
            ScrambledLine x = idling();
            int bits = 5 * (2 + 4 + 2 * (3 + Math.max(6, size) + 4) + 2);
            give(x, size, 1);
            x.send(ADDRESS);
            EXPECT.no("none has", x.sending());
            x.run(1);
            EXPECT.yes("the first has", x.sending());
            x.run(bits - 2);
            EXPECT.yes("all but one have", x.sending());
            x.run(1);
            EXPECT.no("all have", x.sending());
            EXPECT.same("and it is heard", x.length(), size);
        }
    }

    private static void levelOfTheLine() {
        EXPECT.about("The level of the line.");
        ScrambledLine x = line();
        EXPECT.same("before the first bit", x.level(), 0);
        int[] seen = new int[3];
        for (int i = 1; i <= 100; i++) {
            x.run(1);
            seen[x.level() + 1]++;
        }
        EXPECT.yes("-1 is reached", seen[0] > 0);
        EXPECT.yes("0 is reached", seen[1] > 0);
        EXPECT.yes("1 is reached", seen[2] > 0);
        // A refused call, or one that only asks, leaves the line alone.
        int level = x.level();
        x.run(0);
        x.hit(1, -1);
        x.hit(1, 1);
        x.send(ADDRESS);
        EXPECT.same("without a bit time", x.level(), level);
    }

    private static void registerOfTheSender() {
        EXPECT.about("The sender's register.");
        ScrambledLine x = line();
        EXPECT.same("before the first bit", x.register(), SEED);
        for (int i = 1; i <= 150; i++) {
            x.run(1);
            EXPECT.same("behind " + i, x.register(), Tap.registerAt(SEED, i));
        }
        x.send(ADDRESS);
        x.run(100);
        EXPECT.same("in a frame", x.register(), Tap.registerAt(SEED, 250));
    }

    private static void stateOfTheListener() {
        EXPECT.about("0 not locked, 1 hunting, 2 reading");
        Forger f = Forger.fresh(line());
        EXPECT.same("new", f.x.state(), 0);
        f.marks("+".repeat(29));
        EXPECT.same("a run of 29", f.x.state(), 0);
        f.marks("+");
        EXPECT.same("a run of 30", f.x.state(), 1);
        f.plain(Bits.JK.substring(0, 9));
        EXPECT.same("nine bits of the mark", f.x.state(), 1);
        f.plain("1");
        EXPECT.same("the tenth", f.x.state(), 2);
        f.plain("1111");
        EXPECT.same("four bits of I", f.x.state(), 2);
        f.plain("1");
        EXPECT.same("the fifth", f.x.state(), 1);
        // Fifteen bits are quiet already.
        f.plain("0".repeat(384));
        EXPECT.same("nearly lost", f.x.state(), 1);
        f.plain("0");
        EXPECT.same("lost", f.x.state(), 0);
    }

    // Promise 11

    private static void countBad() {
        EXPECT.about("BAD when it is not 0 .. 10");
        int[] bad = {-1, 11, -10, 12, 255, Integer.MIN_VALUE, Integer.MAX_VALUE};
        ScrambledLine x = line();
        for (int status : bad) {
            EXPECT.same("count(" + status + ")", x.count(status), BAD);
        }
        EXPECT.same("count(0)", x.count(0), 0);
        EXPECT.same("count(10)", x.count(10), 0);
    }

    private static void countOfEachStatus() {
        EXPECT.about("How many frames ended with a status.");
        int[] fine = Bits.frame(ADDRESS, 1);
        int[] spoilt = fine.clone();
        spoilt[12] ^= 1;
        String start = Bits.JK + Bits.nibbles(13);
        String[] frames = {
            start + Bits.bytes(fine) + Bits.TR, Bits.JK + Bits.TR, start + "00000" + Bits.TR,
            start + Bits.nibbles(1) + Bits.TR, start + Bits.TR, start + Bits.bytes(spoilt) + Bits.TR,
            start + Bits.bytes(Bits.withCheck(ADDRESS, 1, 7, 0, 0, 0, 0, 0, 0)) + Bits.TR,
            start + Bits.bytes(Bits.frame(ADDRESS + 1, 1)) + Bits.TR, Bits.JK + Bits.I, Bits.JK + Bits.T + Bits.T,
            "0" + Bits.JK + "0".repeat(389)};
        for (int status = 0; status <= 10; status++) {
            Forger f = Forger.locked(line());
            int times = frames[status].length() < 200 ? 2 : 1;
            EXPECT.same("frames that end as " + status, f.plain(frames[status].repeat(times)), times);
            for (int s = 0; s <= 10; s++) {
                EXPECT.same("count(" + s + ") for " + status, f.x.count(s), s == status ? times : 0);
            }
        }
    }

    // Promises 12 to 14

    private static void noGoodFrame() {
        EXPECT.about("BAD when there was none");
        noneGood("new", line());
        noneGood("locked", idling());
        ScrambledLine x = idling();
        give(x, 3, 9);
        x.send(ADDRESS);
        x.run(LEAST_BITS - 1);
        noneGood("a good one is not yet ended", x);
        x.run(1);
        EXPECT.same("now it is", x.source(), SOURCE);
        ScrambledLine y = idling();
        give(y, 3, 9);
        y.send(ADDRESS + 1);
        EXPECT.same("another's ends", y.run(LEAST_BITS), 1);
        noneGood("another's", y);
    }

    private static void noneGood(String what, ScrambledLine x) {
        EXPECT.same(what + ": source", x.source(), BAD);
        EXPECT.same(what + ": length", x.length(), BAD);
        int[] places = {-2, -1, 0, 1, 23, 24, Integer.MIN_VALUE, Integer.MAX_VALUE};
        for (int i : places) {
            EXPECT.same(what + ": byteOf(" + i + ")", x.byteOf(i), BAD);
        }
    }

    private static void sourceEdges() {
        EXPECT.about("The source of the latest good frame.");
        int[] sources = {0, 1, 127, 128, 254, 255};
        for (int source : sources) {
            Forger f = Forger.locked(line());
            f.plain(Bits.sent(Bits.frame(255, source)));
            EXPECT.same("source " + source, f.x.source(), source);
        }
    }

    private static void lengthEdges() {
        EXPECT.about("The length of the latest good frame.");
        for (int length = 0; length <= 24; length++) {
            ScrambledLine x = idling();
            give(x, length, 3);
            x.send(ADDRESS);
            x.run(MOST_BITS);
            EXPECT.same("length " + length, x.length(), length);
        }
    }

    private static void bytesOfTheData() {
        EXPECT.about("Byte i, 0 to 255, of the data of the latest good frame.");
        int[] lengths = {1, 5, 6, 7, 23, 24};
        for (int length : lengths) {
            good(heardWith(length), length + " bytes", length, 250);
        }
    }

    /** A station that has heard a good frame with so many bytes, 250 and on, 0 behind 255. */
    private static ScrambledLine heardWith(int length) {
        ScrambledLine x = idling();
        give(x, length, 250);
        x.send(ADDRESS);
        x.run(MOST_BITS);
        return x;
    }

    private static void noSuchByte() {
        EXPECT.about("BAD when there was none, or it has no such byte.");
        int[] lengths = {0, 1, 5, 6, 7, 23, 24};
        for (int length : lengths) {
            ScrambledLine x = heardWith(length);
            int[] none = {-1, -2, -24, length, length + 1, 24, 25, 31, 256, Integer.MIN_VALUE, Integer.MAX_VALUE};
            for (int i : none) {
                EXPECT.same(length + " bytes: byteOf(" + i + ")", x.byteOf(i), BAD);
            }
        }
        // Bytes behind the data are none of it, whatever they are.
        Forger f = Forger.locked(line());
        f.plain(Bits.sent(Bits.withCheck(ADDRESS, 8, 2, 70, 71, 72, 73, 74, 75)));
        good(f.x, "two bytes and four behind them", 2, 70);
    }

    private static void latestOfSeveral() {
        EXPECT.about("the latest good frame");
        ScrambledLine x = idling();
        int[] lengths = {24, 0, 7, 1, 6, 24, 3};
        int first = 11;
        for (int length : lengths) {
            give(x, length, first);
            x.send(ADDRESS);
            x.run(30 + MOST_BITS);
            good(x, length + " bytes", length, first);
            first += 40;
        }
        EXPECT.same("good ones", x.count(GOOD), lengths.length);
    }

    private static void spoiltFramesAreNotTheLatest() {
        EXPECT.about("the latest good frame");
        int[] fine = Bits.frame(ADDRESS, 201, 10, 11, 12);
        int[] spoilt = Bits.frame(ADDRESS, 77, 99, 98);
        spoilt[12] ^= 1;
        String start = Bits.JK + Bits.nibbles(13);
        String fineBytes = Bits.bytes(Bits.frame(ADDRESS, 77, 99, 98));
        String[] others = {start + Bits.bytes(spoilt) + Bits.TR, start + fineBytes + Bits.I,
            start + fineBytes + Bits.T + Bits.T, start + fineBytes + Bits.nibbles(1) + Bits.TR,
            start + "00000" + fineBytes + Bits.TR, Bits.sent(Bits.frame(ADDRESS + 1, 77, 99, 98)),
            start + Bits.bytes(Bits.withCheck(ADDRESS, 77, 7, 1, 2, 3, 4, 5, 6)) + Bits.TR, start + fineBytes};
        for (String other : others) {
            Forger f = Forger.locked(line());
            f.plain(start + Bits.bytes(fine) + Bits.TR);
            EXPECT.same("source", f.x.source(), 201);
            f.plain(other);
            EXPECT.same("source behind another", f.x.source(), 201);
            good(f.x, "data behind another", 3, 10);
            EXPECT.same("one good frame", f.x.count(GOOD), 1);
        }
    }

    // What it is

    private static void callsUpTo512() {
        EXPECT.about("An object is used for at most 512 calls after it has been made");
        ScrambledLine x = line();
        for (int i = 0; i < 511; i++) {
            x.run(400);
        }
        EXPECT.same("the register behind 511 runs", x.register(), Tap.registerAt(SEED, 511 * 400));
        ScrambledLine y = idling();
        int ended = 0;
        for (int i = 0; i < 255; i++) {
            y.send(ADDRESS);
            ended += y.run(400);
        }
        EXPECT.same("frames ended in 255 runs", ended, 255);
        EXPECT.same("the 512th call", y.count(GOOD), 255);
        ScrambledLine z = line();
        for (int i = 0; i < 510; i++) {
            z.run(400);
        }
        EXPECT.same("still locked", z.state(), 1);
        EXPECT.same("nothing ended", z.run(400), 0);
    }

    private static void objectsSideBySide() {
        EXPECT.about("A new object");
        ScrambledLine x = idling();
        ScrambledLine y = new ScrambledLine(SEED + 1, SOURCE + 1, ADDRESS + 1);
        y.run(100);
        give(x, 24, 1);
        give(y, 2, 101);
        x.send(ADDRESS);
        y.send(ADDRESS + 1);
        for (int i = 0; i < 70; i++) {
            x.run(5);
        }
        EXPECT.same("the other's frame still waits", y.waiting(), 1);
        EXPECT.same("the other's register", y.register(), Tap.registerAt(SEED + 1, 100));
        EXPECT.same("the other heard nothing", y.source(), BAD);
        good(x, "the first one's", 24, 1);
        EXPECT.same("its source", x.source(), SOURCE);
        ScrambledLine z = line();
        EXPECT.same("a third one is new", z.register(), SEED);
        EXPECT.same("no data given to it", z.data(1), 1);
        EXPECT.same("no good frame", z.length(), BAD);
    }
}
