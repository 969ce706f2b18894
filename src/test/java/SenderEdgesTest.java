import java.util.Arrays;
import java.util.function.Supplier;

/** The edges that the document's terms name for what goes out: one test for each sentence. */
public final class SenderEdgesTest {
    private static final Expect EXPECT = new Expect();
    private static final int SEED = 777;
    private static final int SOURCE = 17;
    private static final String SIX_I = Bits.I.repeat(6);
    /** The bits of a frame without data. */
    private static final int LEAST_BITS = 170;

    public static void main(String[] args) {
        lengthOfAFrame();
        paddingToSix();
        paddingBehindLongFrames();
        allOfAFrame();
        checkOfAFrame();
        lowerNibbleFirst();
        everyGroup();
        idleWithoutAFrame();
        idleBehindAFrame();
        sixIdlesSinceTheBeginning();
        sixIdlesSinceTheLastFrame();
        frameBehindMoreThanSixIdles();
        frameGivenWhileAnotherIsSent();
        orderOfWaiting();
        fourWaitAtMost();
        oneBeingSentIsNoneOfThem();
        groupsFromTheHighestBit();
        keyOfTheRegister();
        registerWraps();
        levelBeforeTheFirstBit();
        levelsGoAround();
        levelStays();
        EXPECT.end();
    }

    /** A new station to which a frame with this data was given. */
    private static ScrambledLine with(int target, int... data) {
        ScrambledLine x = new ScrambledLine(SEED, SOURCE, 200);
        give(x, target, data);
        return x;
    }

    private static void give(ScrambledLine x, int target, int... data) {
        for (int b : data) {
            x.data(b);
        }
        x.send(target);
    }

    private static int[] row(int size, int first, int step) {
        int[] row = new int[size];
        for (int i = 0; i < size; i++) {
            row[i] = (first + i * step) % 256;
        }
        return row;
    }

    /** The first bits of stations made alike, against those due. */
    private static void goesOut(String what, Supplier<ScrambledLine> station, String due) {
        EXPECT.same(what, Tap.bits(station, SEED, 0, due.length()), due);
    }

    private static void frameGoesOut(String what, int target, int... data) {
        String due = SIX_I + Bits.sent(Bits.frame(target, SOURCE, data)) + SIX_I;
        goesOut(what, () -> with(target, data), due);
    }

    private static void lengthOfAFrame() {
        EXPECT.about("a LENGTH n (0 .. 24), n bytes of data");
        frameGoesOut("no data", 1);
        frameGoesOut("one byte", 1, 99);
        frameGoesOut("23 bytes", 1, row(23, 3, 71));
        frameGoesOut("24 bytes", 1, row(24, 200, 53));
    }

    private static void paddingToSix() {
        EXPECT.about("as many bytes 0 as are missing to six if n is less");
        int[] headOf5 = {1, SOURCE, 5, 9, 9, 9, 9, 9, 0};
        int[] headOf6 = {1, SOURCE, 6, 9, 9, 9, 9, 9, 9};
        int[] headOf7 = {1, SOURCE, 7, 9, 9, 9, 9, 9, 9, 9};
        int[] headOf0 = {1, SOURCE, 0, 0, 0, 0, 0, 0, 0};
        goesOut("none", () -> with(1), SIX_I + Bits.sent(Bits.withCheck(headOf0)) + Bits.I);
        goesOut("five", () -> with(1, row(5, 9, 0)), SIX_I + Bits.sent(Bits.withCheck(headOf5)) + Bits.I);
        goesOut("six", () -> with(1, row(6, 9, 0)), SIX_I + Bits.sent(Bits.withCheck(headOf6)) + Bits.I);
        goesOut("seven", () -> with(1, row(7, 9, 0)), SIX_I + Bits.sent(Bits.withCheck(headOf7)) + Bits.I);
    }

    /** Five frames are more than can wait: the fifth takes the place that a long one had. */
    private static void paddingBehindLongFrames() {
        EXPECT.about("as many bytes 0 as are missing to six if n is less");
        int longBits = 5 * (2 + 4 + 2 * 31 + 2);
        Supplier<ScrambledLine> station = () -> {
            ScrambledLine x = new ScrambledLine(SEED, SOURCE, 200);
            for (int i = 0; i < 4; i++) {
                give(x, 8, row(24, 255, 0));
            }
            x.run(31);
            give(x, 9, 170);
            return x;
        };
        // The stations have run 31 bit times by themselves.
        int from = 4 * (30 + longBits) + 30 - 31;
        String got = Tap.bits(station, Tap.registerAt(SEED, 31), from, LEAST_BITS);
        EXPECT.same("one byte where 24 were", got, Bits.sent(Bits.frame(9, SOURCE, 170)));
    }

    private static void allOfAFrame() {
        EXPECT.about("What is sent for a frame: J, K, the nibbles 5, 5, 5, 13, those of all its bytes, T, R.");
        String due = "11000" + "10001" + "01011" + "01011" + "01011" + "11011";
        EXPECT.same("before its bytes", Tap.bits(() -> with(1), SEED, 30, due.length()), due);
        EXPECT.same("behind them", Tap.bits(() -> with(1), SEED, 30 + LEAST_BITS - 10, 15), "01101" + "00111" + "11111");
        String longest = Tap.bits(() -> with(1, new int[24]), SEED, 30 + 5 * 70 - 10, 15);
        EXPECT.same("behind those of the longest", longest, "01101" + "00111" + "11111");
    }

    private static void checkOfAFrame() {
        EXPECT.about("it is ~c, its lowest byte first");
        // The check of 0, 0, 0 and six bytes 0 is that of nine zeros, 0xE60914AE.
        String zeros = Bits.bytes(0, 0, 0, 0, 0, 0, 0, 0, 0);
        String due = SIX_I + Bits.JK + Bits.lead() + zeros + Bits.bytes(0xAE, 0x14, 0x09, 0xE6) + Bits.TR;
        goesOut("nine zeros", () -> {
            ScrambledLine x = new ScrambledLine(SEED, 0, 200);
            x.send(0);
            return x;
        }, due);
        frameGoesOut("bytes with their highest bit", 255, row(24, 255, 0));
        frameGoesOut("bytes without", 0, row(24, 0, 0));
    }

    private static void lowerNibbleFirst() {
        EXPECT.about("A byte is two NIBBLES, the lower one first.");
        int headBits = 30 + 10 + 20 + 3 * 10;
        String got = Tap.bits(() -> with(0x12, 0x0F, 0xF0), SEED, headBits, 20);
        EXPECT.same("15 and 240", got, Bits.nibbles(15, 0, 0, 15));
        String target = Tap.bits(() -> with(0x12), SEED, 30 + 10 + 20, 10);
        EXPECT.same("the target", target, Bits.nibbles(2, 1));
    }

    private static void everyGroup() {
        EXPECT.about("the nibbles 0 .. 15 are the groups 30, 9, 20, 21, 10, 11, 14, 15, 18, 19, 22, 23, 26, 27, 28, 29");
        int[] groups = {30, 9, 20, 21, 10, 11, 14, 15, 18, 19, 22, 23, 26, 27, 28, 29};
        int headBits = 30 + 10 + 20 + 3 * 10;
        String got = Tap.bits(() -> with(1, 0x10, 0x32, 0x54, 0x76, 0x98, 0xBA, 0xDC, 0xFE), SEED, headBits, 80);
        for (int nibble = 0; nibble < 16; nibble++) {
            EXPECT.same("nibble " + nibble, Integer.parseInt(got.substring(5 * nibble, 5 * nibble + 5), 2), groups[nibble]);
        }
    }

    private static void idleWithoutAFrame() {
        EXPECT.about("I when there is none");
        goesOut("from the first bit on", () -> new ScrambledLine(SEED, 1, 1), Bits.I.repeat(90));
        goesOut("data alone is no frame", () -> {
            ScrambledLine x = new ScrambledLine(SEED, 1, 1);
            x.data(1);
            return x;
        }, Bits.I.repeat(20));
        goesOut("nor is one that was refused", () -> {
            ScrambledLine x = new ScrambledLine(SEED, 1, 1);
            x.send(256);
            x.send(-1);
            return x;
        }, Bits.I.repeat(20));
    }

    private static void idleBehindAFrame() {
        EXPECT.about("I when there is none");
        String got = Tap.bits(() -> with(1), SEED, 30 + LEAST_BITS, 300);
        EXPECT.same("behind the last frame", got, Bits.I.repeat(60));
    }

    /** In which bit time the first bit of a frame goes out that is given behind so many. */
    private static int firstBitTime(ScrambledLine x, int bitTimes) {
        Tap.go(x, bitTimes);
        x.send(1);
        int at = bitTimes;
        while (!x.sending() && at < bitTimes + 100) {
            x.run(1);
            at++;
        }
        return at;
    }

    private static void sixIdlesSinceTheBeginning() {
        EXPECT.about("A frame is begun when one waits and at least six I have been sent since the last frame "
                + "(or since the beginning).");
        int[][] givenAndBegun = {{0, 31}, {1, 31}, {24, 31}, {25, 31}, {26, 31}, {29, 31}, {30, 31},
            {31, 36}, {32, 36}, {34, 36}, {35, 36}, {36, 41}};
        for (int[] pair : givenAndBegun) {
            int got = firstBitTime(new ScrambledLine(SEED, 1, 1), pair[0]);
            EXPECT.same("given behind " + pair[0] + " bit times", got, pair[1]);
        }
    }

    private static void sixIdlesSinceTheLastFrame() {
        EXPECT.about("at least six I have been sent since the last frame");
        int end = 30 + LEAST_BITS;
        int[][] givenAndBegun = {{end - 1, end + 31}, {end, end + 31}, {end + 1, end + 31}, {end + 25, end + 31},
            {end + 29, end + 31}, {end + 30, end + 31}, {end + 31, end + 36}, {end + 35, end + 36}};
        for (int[] pair : givenAndBegun) {
            ScrambledLine x = with(1);
            Tap.go(x, pair[0]);
            x.send(1);
            Tap.go(x, pair[1] - pair[0] - 1);
            EXPECT.no("given behind " + pair[0] + ": not yet", x.sending());
            x.run(1);
            EXPECT.yes("given behind " + pair[0] + ": begun", x.sending());
        }
        // The sixty I before the first frame are none of the six behind it.
        ScrambledLine x = new ScrambledLine(SEED, 1, 1);
        x.run(300);
        x.send(1);
        x.send(1);
        x.run(LEAST_BITS + 30);
        EXPECT.no("I of before the first frame", x.sending());
        x.run(1);
        EXPECT.yes("six behind it", x.sending());
    }

    private static void frameBehindMoreThanSixIdles() {
        EXPECT.about("at least six I have been sent");
        for (int groups = 6; groups < 60; groups += 9) {
            int got = firstBitTime(new ScrambledLine(SEED, 1, 1), 5 * groups);
            EXPECT.same("behind " + groups + " I", got, 5 * groups + 1);
        }
        ScrambledLine x = new ScrambledLine(SEED, 1, 1);
        Tap.go(x, 100 * 400);
        EXPECT.same("behind 8000 I", firstBitTime(x, 0), 1);
    }

    private static void frameGivenWhileAnotherIsSent() {
        EXPECT.about("THE SENDER sends group after group: the groups of a frame");
        String first = Bits.sent(Bits.frame(1, SOURCE, 5));
        String second = Bits.sent(Bits.frame(2, SOURCE, 6));
        int[] given = {31, 32, 100, 30 + LEAST_BITS - 1};
        for (int at : given) {
            Supplier<ScrambledLine> station = () -> {
                ScrambledLine x = with(1, 5);
                Tap.go(x, at);
                give(x, 2, 6);
                return x;
            };
            String due = (SIX_I + first + SIX_I + second + SIX_I).substring(at);
            EXPECT.same("given behind " + at, Tap.bits(station, Tap.registerAt(SEED, at), 0, due.length()), due);
        }
    }

    private static void orderOfWaiting() {
        EXPECT.about("Frames wait in the order in which they were given");
        ScrambledLine x = new ScrambledLine(SEED, SOURCE, 200);
        x.run(100);
        for (int i = 0; i < 4; i++) {
            give(x, 200, i);
        }
        // Places are used again: more frames than can wait, three or four waiting all the while.
        for (int i = 0; i < 60; i++) {
            x.run(200);
            EXPECT.same("frame " + i, x.byteOf(0), i);
            give(x, 200, 4 + i);
            EXPECT.same("good ones", x.count(ScrambledLine.GOOD), 1 + i);
        }
    }

    private static void fourWaitAtMost() {
        EXPECT.about("4 at most");
        ScrambledLine x = new ScrambledLine(SEED, SOURCE, 200);
        x.run(100);
        for (int i = 1; i <= 4; i++) {
            EXPECT.same("frame " + i, x.send(200), i);
        }
        EXPECT.same("a fifth", x.send(200), ScrambledLine.FULL);
        EXPECT.same("four wait", x.waiting(), 4);
        Tap.go(x, 4 * (LEAST_BITS + 30));
        EXPECT.same("four go out", x.count(ScrambledLine.GOOD), 4);
        Tap.go(x, 400);
        EXPECT.same("and no fifth", x.count(ScrambledLine.GOOD), 4);
    }

    private static void oneBeingSentIsNoneOfThem() {
        EXPECT.about("(the one being sent is none of them)");
        ScrambledLine x = new ScrambledLine(SEED, SOURCE, 200);
        x.run(100);
        x.send(200);
        x.run(1);
        EXPECT.same("one is being sent, none waits", x.waiting(), 0);
        for (int i = 1; i <= 4; i++) {
            EXPECT.same("behind it, frame " + i, x.send(200), i);
        }
        EXPECT.same("a fifth behind it", x.send(200), ScrambledLine.FULL);
        Tap.go(x, 5 * (LEAST_BITS + 30));
        EXPECT.same("five go out", x.count(ScrambledLine.GOOD), 5);
    }

    private static void groupsFromTheHighestBit() {
        EXPECT.about("GROUPS are numbers of five bits, sent from the highest bit on");
        EXPECT.same("J and K", Tap.bits(() -> with(1), SEED, 30, 10), "1100010001");
        EXPECT.same("T and R", Tap.bits(() -> with(1), SEED, 30 + LEAST_BITS - 10, 10), "0110100111");
    }

    private static void keyOfTheRegister() {
        EXPECT.about("its KEY is bit 8 ^ bit 10 of that (bit 0 the lowest)");
        int[][] seedAndNext = {{256, 513}, {1024, 1}, {1280, 512}, {512, 1024}, {128, 256}, {1, 2}, {2047, 2046},
            {2047 - 256, 1535}, {2047 - 1024, 2047}, {2047 - 1280, 1534}};
        for (int[] pair : seedAndNext) {
            ScrambledLine x = new ScrambledLine(pair[0], 1, 1);
            x.run(1);
            EXPECT.same("behind " + pair[0], x.register(), pair[1]);
        }
    }

    private static void registerWraps() {
        EXPECT.about("the register becomes (2 * it + key) modulo 2048 then");
        int[] seeds = {1, 2, 1024, 2047};
        for (int seed : seeds) {
            ScrambledLine x = new ScrambledLine(seed, 1, 1);
            Tap.go(x, 2046);
            EXPECT.same("one bit time before it comes round", x.register(), Tap.registerAt(seed, 2046));
            x.run(1);
            EXPECT.same("come round", x.register(), seed);
        }
        ScrambledLine x = new ScrambledLine(1, 1, 1);
        boolean[] seen = new boolean[2048];
        for (int i = 0; i < 250; i++) {
            x.run(1);
            seen[x.register()] = true;
        }
        int different = 0;
        for (boolean s : seen) {
            different += s ? 1 : 0;
        }
        EXPECT.same("no register twice on the way", different, 250);
        EXPECT.no("never 0", seen[0]);
    }

    private static void levelBeforeTheFirstBit() {
        EXPECT.about("(0, the first of these, before the first bit)");
        EXPECT.same("before", new ScrambledLine(SEED, 1, 1).level(), 0);
        // With seed 1 the first key is 0: bit ^ key is 1, and the line goes on to the level 1, not to -1.
        ScrambledLine x = new ScrambledLine(1, 1, 1);
        x.run(1);
        EXPECT.same("on to the next one", x.level(), 1);
    }

    private static void levelsGoAround() {
        EXPECT.about("the line goes on to the next one of the LEVELS 0, 1, 0, -1 and so on around");
        // Eight keys 0 behind seed 1: eight ones go on the line.
        ScrambledLine x = new ScrambledLine(1, 1, 1);
        int[] due = {1, 0, -1, 0, 1, 0, -1, 0};
        int[] got = new int[8];
        for (int i = 0; i < 8; i++) {
            x.run(1);
            got[i] = x.level();
        }
        EXPECT.same("twice around", Arrays.toString(got), Arrays.toString(due));
    }

    private static void levelStays() {
        EXPECT.about("when 0 it stays");
        // The ninth key behind seed 1 is the first 1; then bit ^ key is 0.
        ScrambledLine x = new ScrambledLine(1, 1, 1);
        x.run(8);
        EXPECT.same("behind eight ones", x.level(), 0);
        x.run(1);
        EXPECT.same("stays at 0", x.level(), 0);
        x.run(1);
        EXPECT.same("goes on to 1", x.level(), 1);
        x.run(1);
        EXPECT.same("stays at 1", x.level(), 1);
        staysAt(-1);
    }

    private static void staysAt(int level) {
        int register = 1;
        ScrambledLine x = new ScrambledLine(1, 1, 1);
        int stays = 0;
        for (int i = 0; i < 200; i++) {
            int before = x.level();
            x.run(1);
            if (before == level && Tap.key(register) == 1) {
                EXPECT.same("bit time " + i, x.level(), level);
                stays++;
            }
            register = Tap.registerAt(register, 1);
        }
        EXPECT.yes("it was put to the test", stays > 10);
    }
}
