/** The edges that the document's terms name for the listener: one test for each sentence. */
public final class ListenerEdgesTest {
    private static final Expect EXPECT = new Expect();
    private static final int ADDRESS = 90;
    private static final int NONE_ENDS = -1;
    private static final int[] FINE = Bits.frame(ADDRESS, 8, 1, 2, 3);
    private static final String FINE_BYTES = Bits.bytes(FINE);

    public static void main(String[] args) {
        hitIsNotForTheLine();
        markAgainstTheLevelGotBefore();
        levelBeforeTheFirst();
        registerAtFirst();
        registerWrapsBeforeTheLock();
        registerWrapsBehindTheLock();
        runGrowsAndBecomesZero();
        lockedAtThirty();
        huntBeginsWithTheLock();
        quietBeginsWithTheLock();
        onesBeginWithTheLock();
        onesInARow();
        tenOnesAtLeast();
        quietOf400();
        runBehindALostLock();
        abortedOnlyWhenRead();
        nothingMoreHappensToAHuntedBit();
        nothingMoreHappensToABitThatIsRead();
        lastTenBits();
        sinceItBeganToHunt();
        readFromTheNextBitOn();
        fiveBitsAreAGroup();
        behindAT();
        earlyWithAnI();
        noNibbleIsAFault();
        beforeTheStart();
        behindTheStart();
        huntsWhenAFrameEnds();
        noStart();
        faulty();
        odd();
        fewerThan13Bytes();
        lastFourBytes();
        lengthOver24();
        bytesOfThatLength();
        otherTargets();
        firstOfTheseThatHolds();
        EXPECT.end();
    }

    private static ScrambledLine line() {
        return new ScrambledLine(1234, 8, ADDRESS);
    }

    /** With seed 1 no ten equal keys come in a row for 2000 bits: idle is quiet for a listener whose register is 0. */
    private static ScrambledLine quietLine() {
        return new ScrambledLine(1, 8, ADDRESS);
    }

    private static String zeros(int n) {
        return "0".repeat(n);
    }

    private static String ones(int n) {
        return "1".repeat(n);
    }

    private static String group(int number) {
        return Integer.toBinaryString(32 + number).substring(1);
    }

    private static boolean isNibble(String group) {
        for (int n = 0; n < 16; n++) {
            if (Bits.nibbles(n).equals(group)) {
                return true;
            }
        }
        return false;
    }

    /** What a frame ends as that is J, K and these bits to a listener that has locked on idle. */
    private static void ends(String what, String bits, int due) {
        EXPECT.same(what, Forger.locked(line()).statusOf(Bits.JK + bits), due);
    }

    /** The same for a frame with the shortest lead, so that long ones fit between idle and a lost lock. */
    private static void bytesEnd(String what, int[] row, int due) {
        ends(what, Bits.nibbles(13) + Bits.bytes(row) + Bits.TR, due);
    }

    private static void hitIsNotForTheLine() {
        EXPECT.about("a HIT puts another level in its place for the listener, not for the line");
        ScrambledLine x = quietLine();
        x.hit(1, -1);
        x.hit(2, -1);
        x.run(1);
        EXPECT.same("the line's own level", x.level(), 1);
        x.run(1);
        EXPECT.same("and its next one", x.level(), 0);
    }

    private static void markAgainstTheLevelGotBefore() {
        EXPECT.about("A MARK is 1 if that differs from the level that it got before");
        int[][] rows = {{1, 0}, {1, -1}, {-1, 1}, {-1, 0}};
        for (int[] row : rows) {
            ScrambledLine x = line();
            for (int k = 1; k <= 30; k++) {
                x.hit(k, row[(k + 1) % 2]);
            }
            x.run(30);
            EXPECT.same("30 times " + row[0] + " and " + row[1] + " in turn", x.state(), 1);
            ScrambledLine y = line();
            for (int k = 1; k <= 30; k++) {
                y.hit(k, row[k == 30 ? 0 : (k + 1) % 2]);
            }
            y.run(30);
            EXPECT.same("29 times, then the same once more", y.state(), 0);
        }
    }

    private static void levelBeforeTheFirst() {
        EXPECT.about("(0 before the first)");
        for (int first = -1; first <= 1; first++) {
            ScrambledLine x = line();
            for (int k = 1; k <= 30; k++) {
                x.hit(k, k % 2 == 1 ? first : first == 1 ? -1 : 1);
            }
            x.run(30);
            EXPECT.same("the first level is " + first, x.state(), first == 0 ? 0 : 1);
        }
    }

    /** A register of 0 has keys 0 for good, and only marks fit these; none of the others has 30 keys 0 in a row. */
    private static void registerAtFirst() {
        EXPECT.about("Its register has 11 bits, 0 at first, with a key likewise.");
        ScrambledLine x = line();
        for (int k = 1; k <= 30; k++) {
            x.hit(k, k % 2);
        }
        x.run(29);
        EXPECT.same("29 marks", x.state(), 0);
        x.run(1);
        EXPECT.same("30 marks", x.state(), 1);
        Forger f = Forger.justLocked(line());
        f.plain(Bits.JK);
        EXPECT.same("the register stays 0 behind the lock: marks are plain bits", f.x.state(), 2);
        // Eleven levels that stay put eleven ones into it: then 2047, with key 0 again.
        Forger g = Forger.fresh(line());
        g.marks("-" + "+".repeat(29));
        EXPECT.same("another register: a run of 29", g.x.state(), 0);
        g.marks("+");
        EXPECT.same("another register: a run of 30", g.x.state(), 1);
        EXPECT.same("keys of bits 8 and 10", g.statusOf(Bits.sent(FINE)), ScrambledLine.GOOD);
    }

    private static void registerWrapsBeforeTheLock() {
        EXPECT.about("the register becomes (2 * it + (mark ^ 1)) modulo 2048");
        // Far more bits go in than the register has, and only the last eleven count.
        Forger f = Forger.fresh(line());
        f.marks("-".repeat(70));
        EXPECT.same("70 that do not fit", f.x.state(), 0);
        f.marks("+".repeat(30));
        EXPECT.same("30 that fit", f.x.state(), 1);
        EXPECT.same("a frame in that place", f.statusOf(Bits.sent(FINE)), ScrambledLine.GOOD);
    }

    private static void registerWrapsBehindTheLock() {
        EXPECT.about("the register becomes (2 * it + key) modulo 2048");
        int[] bitTimes = {2045, 2050, 4100, 20480};
        for (int n : bitTimes) {
            ScrambledLine x = line();
            Tap.go(x, n);
            EXPECT.same("locked behind " + n, x.state(), 1);
            x.send(ADDRESS);
            EXPECT.same("a frame behind " + n, x.run(175), 1);
            EXPECT.same("it is good", x.count(ScrambledLine.GOOD), 1);
        }
    }

    private static void runGrowsAndBecomesZero() {
        EXPECT.about("the RUN grows by 1 if the key is the mark ^ 1, else it becomes 0");
        int[] before = {0, 1, 15, 28, 29};
        for (int n : before) {
            Forger f = Forger.fresh(line());
            f.marks("+".repeat(n) + "-" + "+".repeat(29));
            EXPECT.same(n + " that fit, one that does not, 29 that do", f.x.state(), 0);
            f.marks("+");
            EXPECT.same("and one more", f.x.state(), 1);
        }
        Forger f = Forger.fresh(line());
        f.marks("+-".repeat(45));
        EXPECT.same("45 that fit, none in a row", f.x.state(), 0);
    }

    private static void lockedAtThirty() {
        EXPECT.about("when the run is 30 it is locked");
        Forger f = Forger.fresh(line());
        f.marks("+".repeat(29));
        EXPECT.same("29", f.x.state(), 0);
        f.marks("+");
        EXPECT.same("30", f.x.state(), 1);
        int earliest = 400;
        int latest = 0;
        for (int seed = 1; seed < 2048; seed++) {
            int at = lockOnIdle(seed);
            earliest = Math.min(earliest, at);
            latest = Math.max(latest, at);
        }
        // The last key that does not fit is the 11th at the latest: there the register holds what was heard.
        EXPECT.same("the latest lock on idle", latest, 41);
        EXPECT.yes("none before the 30th bit time", earliest >= 30);
    }

    private static int lockOnIdle(int seed) {
        ScrambledLine x = new ScrambledLine(seed, 8, ADDRESS);
        int at = 0;
        while (x.state() == 0 && at < 100) {
            x.run(1);
            at++;
        }
        return at;
    }

    private static void huntBeginsWithTheLock() {
        EXPECT.about("begins to HUNT");
        // The last bits of the run were ones: J's first one can't be had from them.
        Forger f = Forger.justLocked(line());
        f.plain("100010001");
        EXPECT.same("nine bits of J and K", f.x.state(), 1);
        Forger g = Forger.justLocked(line());
        g.plain("110001000");
        EXPECT.same("all but the last bit", g.x.state(), 1);
        g.plain("1");
        EXPECT.same("ten bits at once behind the lock", g.x.state(), 2);
    }

    private static void quietBeginsWithTheLock() {
        EXPECT.about("with QUIET 0");
        Forger f = Forger.justLocked(quietLine());
        f.bareLine(399);
        EXPECT.yes("399 bits", f.x.state() != 0);
        f.bareLine(1);
        EXPECT.same("400 bits", f.x.state(), 0);
        // A second lock, behind one that was lost at 400.
        Forger g = Forger.justLocked(quietLine());
        g.plain("0");
        g.bareLine(398);
        g.plain("0");
        EXPECT.same("lost", g.x.state(), 0);
        g.marks("+".repeat(30));
        EXPECT.same("locked again", g.x.state(), 1);
        g.plain("0");
        g.bareLine(398);
        EXPECT.yes("399 bits behind the second lock", g.x.state() != 0);
        g.plain("0");
        EXPECT.same("400 bits behind the second lock", g.x.state(), 0);
    }

    private static void onesBeginWithTheLock() {
        EXPECT.about("and no ones");
        // The lock is lost with nine ones in a row: a tenth behind the next lock would set quiet to 0.
        Forger f = Forger.justLocked(quietLine());
        f.bareLine(390);
        f.plain("0" + ones(9));
        EXPECT.same("lost with nine ones", f.x.state(), 0);
        f.marks("+".repeat(30));
        f.plain("10");
        f.bareLine(397);
        EXPECT.yes("399 bits", f.x.state() != 0);
        f.plain("0");
        EXPECT.same("400 bits, the first a one", f.x.state(), 0);
        // Nor are the 30 marks of a new listener's run ones.
        Forger g = Forger.justLocked(quietLine());
        g.plain(ones(9) + "0");
        g.bareLine(389);
        EXPECT.yes("nine ones, 399 bits in all", g.x.state() != 0);
        g.plain("0");
        EXPECT.same("nine ones, 400 bits in all", g.x.state(), 0);
    }

    private static void onesInARow() {
        EXPECT.about("1 more with a plain 1, 0 with a plain 0");
        Forger f = Forger.justLocked(line());
        f.plain(zeros(381) + ones(9) + "0" + ones(8));
        EXPECT.yes("399 bits", f.x.state() != 0);
        f.plain("1");
        EXPECT.same("nine, a zero, nine: no ten in a row", f.x.state(), 0);
        Forger g = Forger.justLocked(line());
        g.plain(zeros(380) + ones(9) + "0" + ones(10));
        EXPECT.yes("nine, a zero, ten", g.x.state() != 0);
    }

    private static void tenOnesAtLeast() {
        EXPECT.about("QUIET becomes 0 when there are at least 10 ones, otherwise 1 more");
        Forger f = Forger.justLocked(line());
        f.plain(zeros(390) + ones(10));
        EXPECT.yes("the 400th bit is the tenth one", f.x.state() != 0);
        Forger g = Forger.justLocked(line());
        g.plain(zeros(391) + ones(9));
        EXPECT.same("the 400th bit is the ninth one", g.x.state(), 0);
        int[] many = {10, 11, 12, 30};
        for (int n : many) {
            Forger h = Forger.justLocked(quietLine());
            h.plain(ones(n) + "0");
            h.bareLine(398);
            EXPECT.yes(n + " ones, then 399 bits", h.x.state() != 0);
            h.plain("0");
            EXPECT.same(n + " ones, then 400 bits", h.x.state(), 0);
        }
    }

    private static void quietOf400() {
        EXPECT.about("when it is 400 the lock is lost");
        Forger f = Forger.justLocked(line());
        f.plain(zeros(399));
        EXPECT.same("hunting, 399", f.x.state(), 1);
        f.plain("0");
        EXPECT.same("hunting, 400", f.x.state(), 0);
        Forger g = Forger.justLocked(line());
        g.plain(Bits.JK + zeros(389));
        EXPECT.same("reading, 399", g.x.state(), 2);
        g.plain("0");
        EXPECT.same("reading, 400", g.x.state(), 0);
        // Quiet goes on over the end of a frame.
        Forger h = Forger.justLocked(line());
        EXPECT.same("a torn frame", h.statusOf(Bits.JK + Bits.T + zeros(5)), ScrambledLine.TORN);
        h.plain(zeros(379));
        EXPECT.same("399 with the frame's", h.x.state(), 1);
        h.plain("0");
        EXPECT.same("400 with the frame's", h.x.state(), 0);
    }

    private static void runBehindALostLock() {
        EXPECT.about("(the run is 0");
        Forger f = Forger.justLocked(quietLine());
        f.bareLine(399);
        f.plain("0");
        EXPECT.same("lost", f.x.state(), 0);
        f.marks("+".repeat(29));
        EXPECT.same("a run of 29", f.x.state(), 0);
        f.marks("+");
        EXPECT.same("a run of 30", f.x.state(), 1);
        // With the line's own levels it is found again as well.
        ScrambledLine x = quietLine();
        Forger g = Forger.justLocked(x);
        g.bareLine(400);
        EXPECT.same("lost", x.state(), 0);
        x.run(29);
        EXPECT.same("29 bits of idle", x.state(), 0);
        x.run(12);
        EXPECT.same("41 bits of idle", x.state(), 1);
        x.send(ADDRESS);
        x.run(250);
        EXPECT.same("and frames are heard", x.count(ScrambledLine.GOOD), 1);
    }

    private static void abortedOnlyWhenRead() {
        EXPECT.about("a frame that was being read is ABORTED");
        EXPECT.same("reading", Forger.justLocked(line()).statusOf(Bits.JK + zeros(390)), ScrambledLine.ABORTED);
        EXPECT.same("hunting", Forger.justLocked(line()).statusOf(zeros(400)), NONE_ENDS);
        String torn = Bits.JK + Bits.T + zeros(5);
        EXPECT.same("hunting behind a frame", Forger.justLocked(line()).statusOf(torn + zeros(380)), ScrambledLine.TORN);
        EXPECT.same("in the midst of a group", Forger.justLocked(line()).statusOf("000" + Bits.JK + zeros(387)),
                ScrambledLine.ABORTED);
        EXPECT.same("with its T noted", Forger.justLocked(line()).statusOf(zeros(381) + Bits.JK + Bits.T + "0000"),
                ScrambledLine.ABORTED);
        EXPECT.same("with no bit read", Forger.justLocked(line()).statusOf(zeros(389) + Bits.JK + "1"),
                ScrambledLine.ABORTED);
    }

    private static void nothingMoreHappensToAHuntedBit() {
        EXPECT.about("and nothing more happens to this bit");
        Forger f = Forger.justLocked(line());
        f.plain(zeros(389) + Bits.JK);
        EXPECT.same("K's last bit is the 399th", f.x.state(), 2);
        Forger g = Forger.justLocked(line());
        EXPECT.same("K's last bit is the 400th", g.statusOf(zeros(390) + Bits.JK), NONE_ENDS);
        EXPECT.same("not locked, not reading", g.x.state(), 0);
    }

    private static void nothingMoreHappensToABitThatIsRead() {
        EXPECT.about("and nothing more happens to this bit");
        String good = Bits.sent(FINE);
        String early = Bits.JK + Bits.I;
        String torn = Bits.JK + Bits.T + Bits.K;
        String[] frames = {good, early, torn};
        int[] statuses = {ScrambledLine.GOOD, ScrambledLine.EARLY, ScrambledLine.TORN};
        for (int i = 0; i < frames.length; i++) {
            Forger f = Forger.justLocked(line());
            EXPECT.same("its last bit is the 399th", f.statusOf(zeros(399 - frames[i].length()) + frames[i]), statuses[i]);
            EXPECT.same("hunting", f.x.state(), 1);
            Forger g = Forger.justLocked(line());
            EXPECT.same("its last bit is the 400th", g.statusOf(zeros(400 - frames[i].length()) + frames[i]),
                    ScrambledLine.ABORTED);
            EXPECT.same("not locked", g.x.state(), 0);
            EXPECT.same("no good frame", g.x.source(), ScrambledLine.BAD);
        }
    }

    private static void lastTenBits() {
        EXPECT.about("when the last ten plain bits since it began to hunt are J and K");
        for (int before = 0; before < 12; before++) {
            Forger f = Forger.justLocked(line());
            f.plain((before % 2 == 0 ? zeros(before) : ones(before)) + Bits.JK);
            EXPECT.same("behind " + before + " bits, at no group's beginning", f.x.state(), 2);
        }
        for (int bit = 0; bit < 10; bit++) {
            char[] spoilt = Bits.JK.toCharArray();
            spoilt[bit] = spoilt[bit] == '0' ? '1' : '0';
            Forger f = Forger.justLocked(line());
            f.plain("00000" + new String(spoilt) + "00000");
            EXPECT.same("bit " + bit + " of J and K spoilt", f.x.state(), 1);
        }
        Forger f = Forger.justLocked(line());
        f.plain(Bits.J + "0" + Bits.K + Bits.J + Bits.J + Bits.I + Bits.K + Bits.K);
        EXPECT.same("J and K apart", f.x.state(), 1);
        Forger g = Forger.justLocked(line());
        g.plain(Bits.J + Bits.JK);
        EXPECT.same("J, J, K", g.x.state(), 2);
    }

    private static void sinceItBeganToHunt() {
        EXPECT.about("since it began to hunt");
        // Each frame's last bit would be J's first one, or its last group J itself.
        String[] frames = {Bits.JK + Bits.TR, Bits.JK + Bits.I, Bits.JK + Bits.T + Bits.K};
        for (String frame : frames) {
            Forger f = Forger.justLocked(line());
            f.plain(frame + "100010001");
            EXPECT.same("nine bits behind a frame", f.x.state(), 1);
            Forger g = Forger.justLocked(line());
            g.plain(frame + Bits.JK);
            EXPECT.same("ten bits behind a frame", g.x.state(), 2);
        }
        Forger f = Forger.justLocked(line());
        f.plain(Bits.JK + Bits.T + Bits.J + Bits.K);
        EXPECT.same("a torn frame's J", f.x.state(), 1);
        // Bits that were hunted before the lock was lost count no more behind the next one.
        Forger g = Forger.justLocked(quietLine());
        g.plain("0");
        g.bareLine(393);
        g.plain("110001");
        EXPECT.same("lost behind six bits", g.x.state(), 0);
        g.marks("+".repeat(30));
        g.plain("10001");
        EXPECT.same("five bits behind the next lock", g.x.state(), 1);
        g.plain("0001");
        EXPECT.same("nine bits behind the next lock", g.x.state(), 1);
    }

    private static void readFromTheNextBitOn() {
        EXPECT.about("a frame is being READ from the next bit on");
        Forger f = Forger.justLocked(line());
        f.plain(Bits.JK + "1111");
        EXPECT.same("four bits of I", f.x.state(), 2);
        f.plain("1");
        EXPECT.same("the fifth", f.x.state(), 1);
        EXPECT.same("early", f.x.count(ScrambledLine.EARLY), 1);
    }

    private static void fiveBitsAreAGroup() {
        EXPECT.about("five bits are a group, the first one the highest");
        // Five ones at no group's beginning are no I.
        ends("00111 11011", Bits.R + "11011" + Bits.nibbles(13) + FINE_BYTES + Bits.TR, ScrambledLine.FAULTY);
        // T turned round is 22, nibble 10; R turned round is 28, nibble 14.
        ends("T turned round", Bits.nibbles(13) + FINE_BYTES + "10110" + Bits.TR, ScrambledLine.ODD);
        ends("R turned round", Bits.nibbles(13) + FINE_BYTES + Bits.T + "11100", ScrambledLine.TORN);
        // A group that a lost lock cut short is none of the next frame's.
        Forger f = Forger.justLocked(quietLine());
        f.plain("0");
        f.bareLine(384);
        f.plain(Bits.JK + "0111");
        EXPECT.same("399 bits", f.x.state(), 2);
        EXPECT.same("cut short", f.statusOf("1"), ScrambledLine.ABORTED);
        f.marks("+".repeat(30));
        EXPECT.same("a new group", f.statusOf(Bits.JK + "1111"), NONE_ENDS);
        EXPECT.same("its fifth bit", f.statusOf("1"), ScrambledLine.EARLY);
    }

    private static void behindAT() {
        EXPECT.about("Behind a T, the frame ends: well if the group is R, otherwise as TORN.");
        for (int number = 0; number < 32; number++) {
            int due = group(number).equals(Bits.R) ? ScrambledLine.GOOD : ScrambledLine.TORN;
            ends("group " + number, Bits.nibbles(13) + FINE_BYTES + Bits.T + group(number), due);
        }
        ends("T before the start, R", Bits.TR, ScrambledLine.NO_START);
        ends("T before the start, I", Bits.T + Bits.I, ScrambledLine.TORN);
    }

    private static void earlyWithAnI() {
        EXPECT.about("I: the frame ends as EARLY.");
        ends("at once", Bits.I, ScrambledLine.EARLY);
        ends("before the start", Bits.nibbles(5, 5) + Bits.I, ScrambledLine.EARLY);
        ends("behind the start", Bits.nibbles(13) + Bits.I, ScrambledLine.EARLY);
        ends("behind all bytes", Bits.nibbles(13) + FINE_BYTES + Bits.I, ScrambledLine.EARLY);
        ends("behind a fault", zeros(5) + Bits.I, ScrambledLine.EARLY);
    }

    private static void noNibbleIsAFault() {
        EXPECT.about("Another group that is no nibble: there is a FAULT.");
        int others = 0;
        for (int number = 0; number < 31; number++) {
            String text = group(number);
            if (isNibble(text) || text.equals(Bits.T)) {
                continue;
            }
            others++;
            ends("group " + number + " before the start", text + Bits.nibbles(13) + FINE_BYTES + Bits.TR,
                    ScrambledLine.FAULTY);
            ends("group " + number + " behind it", Bits.nibbles(13) + text + FINE_BYTES + Bits.TR, ScrambledLine.FAULTY);
            ends("group " + number + " before T", Bits.nibbles(13) + FINE_BYTES + text + Bits.TR, ScrambledLine.FAULTY);
        }
        EXPECT.same("groups that are neither a nibble nor T nor I", others, 14);
    }

    private static void beforeTheStart() {
        EXPECT.about("A nibble, before the START: 13 is the start; 5 is nothing; others are a FAULT.");
        for (int nibble = 0; nibble < 16; nibble++) {
            if (nibble == 13) {
                continue;
            }
            int due = nibble == 5 ? ScrambledLine.GOOD : ScrambledLine.FAULTY;
            ends("nibble " + nibble + " first", Bits.nibbles(nibble, 13) + FINE_BYTES + Bits.TR, due);
            ends("nibble " + nibble + " last", Bits.nibbles(5, 5, nibble, 13) + FINE_BYTES + Bits.TR, due);
        }
        for (int fives = 0; fives < 12; fives++) {
            ends(fives + " fives", Bits.nibbles(5).repeat(fives) + Bits.nibbles(13) + FINE_BYTES + Bits.TR,
                    ScrambledLine.GOOD);
        }
    }

    private static void behindTheStart() {
        EXPECT.about("A nibble behind the start is put to those that there are.");
        for (int nibble = 0; nibble < 16; nibble++) {
            ends("nibble " + nibble + " is one more", Bits.nibbles(13, nibble) + FINE_BYTES + Bits.TR, ScrambledLine.ODD);
        }
        // The first bytes of a frame may look like starts and fives.
        bytesEnd("target 0xDD, source 0x55", Bits.frame(0xDD, 0x55, 0xD5, 0x5D), ScrambledLine.OTHER);
        // Groups that are no nibbles put nothing there, but the fault goes before what that would be.
        ends("24 nibbles and two faults", Bits.nibbles(13) + Bits.bytes(new int[12]) + Bits.J + Bits.K + Bits.TR,
                ScrambledLine.FAULTY);
    }

    private static void huntsWhenAFrameEnds() {
        EXPECT.about("When a frame ends the listener begins to hunt.");
        String[] frames = {Bits.nibbles(13) + FINE_BYTES + Bits.TR, Bits.TR, Bits.T + Bits.T, Bits.I,
            zeros(5) + Bits.TR, Bits.nibbles(13, 1) + Bits.TR, Bits.nibbles(13) + Bits.TR};
        for (String frame : frames) {
            Forger f = Forger.locked(line());
            f.plain(Bits.JK + frame.substring(0, frame.length() - 1));
            EXPECT.same("before its last bit", f.x.state(), 2);
            f.plain(frame.substring(frame.length() - 1));
            EXPECT.same("with its last bit", f.x.state(), 1);
            EXPECT.same("the next frame at once", f.statusOf(Bits.JK + Bits.I), ScrambledLine.EARLY);
        }
    }

    private static void noStart() {
        EXPECT.about("NO_START: there was none");
        ends("nothing", Bits.TR, ScrambledLine.NO_START);
        ends("fives alone", Bits.nibbles(5, 5, 5) + Bits.TR, ScrambledLine.NO_START);
        ends("a start alone", Bits.nibbles(13) + Bits.TR, ScrambledLine.SHORT);
        // What was noted for a frame is not the next one's.
        Forger f = Forger.locked(line());
        f.plain(Bits.JK + Bits.nibbles(13) + Bits.TR);
        EXPECT.same("behind a frame with a start", f.statusOf(Bits.JK + Bits.TR), ScrambledLine.NO_START);
    }

    private static void faulty() {
        EXPECT.about("FAULTY: there was a fault");
        ends("one", Bits.nibbles(1, 13) + FINE_BYTES + Bits.TR, ScrambledLine.FAULTY);
        ends("many", Bits.nibbles(1, 2, 3, 13) + zeros(25) + Bits.TR, ScrambledLine.FAULTY);
        Forger f = Forger.locked(line());
        f.plain(Bits.JK + zeros(5) + Bits.TR);
        EXPECT.same("behind a frame with a fault", f.statusOf(Bits.sent(FINE)), ScrambledLine.GOOD);
    }

    private static void odd() {
        EXPECT.about("ODD: the nibbles are odd in number");
        int[] numbers = {1, 3, 25, 27, 29};
        for (int n : numbers) {
            ends(n + " nibbles", Bits.nibbles(13) + Bits.nibbles(new int[n]) + Bits.TR, ScrambledLine.ODD);
        }
        ends("no nibble", Bits.nibbles(13) + Bits.TR, ScrambledLine.SHORT);
        Forger f = Forger.locked(line());
        f.plain(Bits.JK + Bits.nibbles(13, 7) + Bits.TR);
        EXPECT.same("behind a frame with a nibble", f.statusOf(Bits.sent(FINE)), ScrambledLine.GOOD);
    }

    private static void fewerThan13Bytes() {
        EXPECT.about("SHORT: fewer than 13 bytes");
        for (int size = 0; size <= 14; size++) {
            int due = size < 13 ? ScrambledLine.SHORT : ScrambledLine.CHECK;
            bytesEnd(size + " bytes without a check", new int[size], due);
        }
        for (int size = 4; size <= 13; size++) {
            int[] head = java.util.Arrays.copyOf(Bits.row(ADDRESS, 8), size - 4);
            bytesEnd(size + " bytes with their check", Bits.withCheck(head),
                    size < 13 ? ScrambledLine.SHORT : ScrambledLine.GOOD);
        }
    }

    private static void lastFourBytes() {
        EXPECT.about("CHECK: the last four bytes are not the check of those before them");
        int[] longest = Bits.frame(ADDRESS, 8, new int[24]);
        for (int i = 0; i < longest.length; i++) {
            int[] spoilt = longest.clone();
            spoilt[i] ^= i % 2 == 0 ? 1 : 128;
            bytesEnd("byte " + i + " of 31 spoilt", spoilt, ScrambledLine.CHECK);
        }
        for (int i = 0; i < 4; i++) {
            for (int bit = 0; bit < 8; bit++) {
                int[] spoilt = FINE.clone();
                spoilt[9 + i] ^= 1 << bit;
                bytesEnd("bit " + bit + " of check byte " + i, spoilt, ScrambledLine.CHECK);
            }
        }
        // The check of the digits 1 to 9 is 0xCBF43926; as a length, the digit 3 is too large.
        int[] digits = {49, 50, 51, 52, 53, 54, 55, 56, 57, 0x26, 0x39, 0xF4, 0xCB};
        bytesEnd("the nine digits", digits, ScrambledLine.LENGTH);
        int[] turned = {49, 50, 51, 52, 53, 54, 55, 56, 57, 0xCB, 0xF4, 0x39, 0x26};
        bytesEnd("highest byte first", turned, ScrambledLine.CHECK);
        int[] notTurnedOver = {49, 50, 51, 52, 53, 54, 55, 56, 57, 0xD9, 0xC6, 0x0B, 0x34};
        bytesEnd("c itself, not ~c", notTurnedOver, ScrambledLine.CHECK);
    }

    /** A frame with this length byte and so many bytes between it and its check, which is right. */
    private static int[] bodied(int target, int length, int body) {
        return Bits.withCheck(Bits.joined(Bits.row(target, 8, length), new int[body]));
    }

    private static void lengthOver24() {
        EXPECT.about("LENGTH: the length is more than 24");
        bytesEnd("24", bodied(ADDRESS, 24, 24), ScrambledLine.GOOD);
        for (int length = 25; length <= 29; length++) {
            bytesEnd(length + " with as many bytes", bodied(ADDRESS, length, length), ScrambledLine.LENGTH);
        }
        int[] large = {25, 31, 32, 127, 128, 250, 255};
        for (int length : large) {
            bytesEnd(length + " with six bytes", bodied(ADDRESS, length, 6), ScrambledLine.LENGTH);
        }
    }

    private static void bytesOfThatLength() {
        EXPECT.about("or the bytes are not so many as a frame of that length has");
        for (int length = 0; length <= 24; length++) {
            int body = Math.max(6, length);
            bytesEnd("length " + length + ", all its bytes", bodied(ADDRESS, length, body), ScrambledLine.GOOD);
            bytesEnd("length " + length + ", one more", bodied(ADDRESS, length, body + 1), ScrambledLine.LENGTH);
            bytesEnd("length " + length + ", one less", bodied(ADDRESS, length, body - 1),
                    length <= 6 ? ScrambledLine.SHORT : ScrambledLine.LENGTH);
        }
        bytesEnd("length 0, 24 bytes", bodied(ADDRESS, 0, 24), ScrambledLine.LENGTH);
        bytesEnd("length 24, six bytes", bodied(ADDRESS, 24, 6), ScrambledLine.LENGTH);
    }

    private static void otherTargets() {
        EXPECT.about("OTHER: the target is neither the listener's address nor 255");
        for (int target = 0; target < 256; target++) {
            boolean heard = target == ADDRESS || target == 255;
            bytesEnd("target " + target, bodied(target, 0, 6), heard ? ScrambledLine.GOOD : ScrambledLine.OTHER);
        }
        int[] addresses = {0, 254, 255};
        int[] targets = {0, 1, 8, 127, 128, 254, 255};
        for (int address : addresses) {
            for (int target : targets) {
                Forger f = Forger.locked(new ScrambledLine(1234, 8, address));
                int due = target == address || target == 255 ? ScrambledLine.GOOD : ScrambledLine.OTHER;
                EXPECT.same("address " + address + ", target " + target, f.statusOf(Bits.sent(Bits.frame(target, 8))), due);
            }
        }
    }

    /** Two statuses that hold at once: the one that the document names first is due. */
    private static void firstOfTheseThatHolds() {
        EXPECT.about("is the first of these that holds");
        String start = Bits.nibbles(13);
        int[] another = bodied(ADDRESS + 1, 3, 6);
        int[] wrongLength = bodied(ADDRESS, 3, 7);
        int[] wrongCheck = FINE.clone();
        wrongCheck[12] ^= 4;
        int[] anotherWrongCheck = another.clone();
        anotherWrongCheck[12] ^= 4;
        int[] wrongLengthAndCheck = wrongLength.clone();
        wrongLengthAndCheck[13] ^= 4;
        int[] shortAnother = bodied(ADDRESS + 1, 3, 5);
        ends("no start, a fault", zeros(5) + Bits.TR, ScrambledLine.NO_START);
        ends("no start, too short", Bits.TR, ScrambledLine.NO_START);
        ends("a fault, odd", start + zeros(5) + FINE_BYTES + Bits.nibbles(1) + Bits.TR, ScrambledLine.FAULTY);
        ends("a fault, short", start + zeros(5) + Bits.TR, ScrambledLine.FAULTY);
        ends("a fault, check", start + zeros(5) + Bits.bytes(wrongCheck) + Bits.TR, ScrambledLine.FAULTY);
        ends("a fault, length", start + zeros(5) + Bits.bytes(wrongLength) + Bits.TR, ScrambledLine.FAULTY);
        ends("a fault, another's", start + zeros(5) + Bits.bytes(another) + Bits.TR, ScrambledLine.FAULTY);
        ends("odd, short", start + Bits.nibbles(new int[25]) + Bits.TR, ScrambledLine.ODD);
        ends("odd, check", start + Bits.bytes(wrongCheck) + Bits.nibbles(1) + Bits.TR, ScrambledLine.ODD);
        ends("odd, length", start + Bits.bytes(wrongLength) + Bits.nibbles(1) + Bits.TR, ScrambledLine.ODD);
        ends("odd, another's", start + Bits.bytes(another) + Bits.nibbles(1) + Bits.TR, ScrambledLine.ODD);
        bytesEnd("short, check", new int[12], ScrambledLine.SHORT);
        bytesEnd("short, length", bodied(ADDRESS, 7, 5), ScrambledLine.SHORT);
        bytesEnd("short, another's", shortAnother, ScrambledLine.SHORT);
        bytesEnd("check, length", wrongLengthAndCheck, ScrambledLine.CHECK);
        bytesEnd("check, another's", anotherWrongCheck, ScrambledLine.CHECK);
        bytesEnd("length, another's", bodied(ADDRESS + 1, 3, 7), ScrambledLine.LENGTH);
    }
}
