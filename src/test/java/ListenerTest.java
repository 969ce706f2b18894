/** Promises 5 and 10 to 14: the lock, the hunt, how frames end, and what the latest good one held. */
public final class ListenerTest {
    private static final Expect EXPECT = new Expect();
    private static final int ADDRESS = 90;

    public static void main(String[] args) {
        lockOnIdle();
        lockByRuns();
        hunt();
        huntBeginsAnewBehindAFrame();
        lockLostWhileHunting();
        lockKeptByTenOnes();
        lockLostWhileReading();
        lockFoundAgain();
        abortedInAGroup();
        tenOnesBehindALock();
        onesCountedAnewBehindALock();
        countEdges();
        endings();
        starts();
        faults();
        sizes();
        checks();
        lengths();
        longestLength();
        targets();
        latestGoodFrame();
        everyByte();
        severalFramesInOneRun();
        EXPECT.end();
    }

    private static ScrambledLine line() {
        return new ScrambledLine(1234, 8, ADDRESS);
    }

    private static String zeros(int n) {
        return "0".repeat(n);
    }

    private static void lockOnIdle() {
        for (int seed = 1; seed < 2048; seed++) {
            ScrambledLine x = new ScrambledLine(seed, 1, 1);
            x.run(29);
            EXPECT.same("seed " + seed + ": 29 bit times are too few", x.state(), 0);
            x.run(12);
            EXPECT.same("seed " + seed + ": 11 to fill the register, 30 to lock", x.state(), 1);
        }
    }

    private static void lockByRuns() {
        Forger f = Forger.fresh(line());
        f.marks("+".repeat(29));
        EXPECT.same("a run of 29", f.x.state(), 0);
        f.marks("+");
        EXPECT.same("a run of 30", f.x.state(), 1);

        Forger g = Forger.fresh(line());
        g.marks("+".repeat(29) + "-" + "+".repeat(29));
        EXPECT.same("29, one that does not fit, 29", g.x.state(), 0);
        g.marks("+");
        EXPECT.same("and one more", g.x.state(), 1);

        Forger h = Forger.fresh(line());
        h.marks("-".repeat(40) + "+".repeat(30));
        EXPECT.same("40 that do not fit, 30 that do", h.x.state(), 1);
        EXPECT.same("the register goes on from there", h.plain(Bits.sent(Bits.frame(ADDRESS, 2, 3))), 1);
        EXPECT.same("a frame in that place of the scrambler", h.x.count(ScrambledLine.GOOD), 1);
    }

    private static void hunt() {
        for (int before = 0; before < 7; before++) {
            Forger f = Forger.fresh(line());
            f.marks("+".repeat(30));
            f.plain(zeros(before) + "110001000");
            EXPECT.same("nine bits of J and K", f.x.state(), 1);
            f.plain("1");
            EXPECT.same("J and K behind " + before + " bits", f.x.state(), 2);
        }
        Forger f = Forger.locked(line());
        f.plain("1100010000" + "000" + "0110001001" + "000" + "1000100011" + "000" + "0100010001" + "000");
        EXPECT.same("what is not J and K", f.x.state(), 1);
        f.plain("111" + Bits.JK);
        EXPECT.same("J and K behind ones", f.x.state(), 2);
        EXPECT.same("no frame ended by being found", f.plain(Bits.JK), 0);
        EXPECT.same("J and K in a frame begin none", f.x.state(), 2);
        Forger g = Forger.locked(line());
        g.plain("11000" + Bits.JK);
        EXPECT.same("J, J and K", g.x.state(), 2);
    }

    private static void huntBeginsAnewBehindAFrame() {
        Forger f = Forger.locked(line());
        EXPECT.same("T and J: torn", f.plain(Bits.JK + Bits.T + Bits.J), 1);
        EXPECT.same("torn", f.x.count(ScrambledLine.TORN), 1);
        f.plain(Bits.K);
        EXPECT.same("that J was the frame's, not the hunt's", f.x.state(), 1);
        f.plain(Bits.JK);
        EXPECT.same("a whole mark", f.x.state(), 2);
        EXPECT.same("an I: early", f.plain(Bits.I), 1);
        f.plain("000" + "10001");
        EXPECT.same("the ones of that I were the frame's", f.x.state(), 1);
        // The bits that made the lock are none of the hunt either.
        Forger g = Forger.fresh(line());
        g.marks("+".repeat(30));
        g.plain("00010001");
        EXPECT.same("ones from before the lock", g.x.state(), 1);
        Forger h = Forger.fresh(line());
        h.marks("+".repeat(30));
        h.plain("100010001");
        EXPECT.same("nine bits behind the lock", h.x.state(), 1);
        // K's last bit, a 1, could be J's first one if the mark before a frame still counted behind it.
        Forger k = Forger.locked(line());
        EXPECT.same("early at once", k.plain(Bits.JK + Bits.I), 1);
        k.plain("100010001");
        EXPECT.same("nine bits behind a frame", k.x.state(), 1);
    }

    private static void lockLostWhileHunting() {
        Forger f = Forger.fresh(line());
        f.marks("+".repeat(30));
        f.plain(zeros(399));
        EXPECT.same("399 quiet bits", f.x.state(), 1);
        EXPECT.same("no frame ends by a lost lock", f.plain("0"), 0);
        EXPECT.same("400 quiet bits", f.x.state(), 0);
        EXPECT.same("nothing was aborted", f.x.count(ScrambledLine.ABORTED), 0);

        // The mark would be complete with the bit that loses the lock: nothing more happens to it.
        Forger g = Forger.fresh(line());
        g.marks("+".repeat(30));
        EXPECT.same("the mark's last bit is the 400th", g.plain(zeros(390) + Bits.JK), 0);
        EXPECT.same("the lock is lost", g.x.state(), 0);

        // The ones of the marks that made the lock count for nothing.
        Forger h = Forger.fresh(line());
        h.marks("+".repeat(30));
        h.plain("111111111" + zeros(390));
        EXPECT.same("nine ones and 390 zeros", h.x.state(), 1);
        h.plain("0");
        EXPECT.same("and one more", h.x.state(), 0);
    }

    private static void lockKeptByTenOnes() {
        Forger f = Forger.locked(line());
        f.plain(zeros(390) + "111111111");
        EXPECT.same("399 bits, the last nine ones", f.x.state(), 1);
        f.plain("1");
        EXPECT.same("the tenth one", f.x.state(), 1);
        f.plain(zeros(60));
        EXPECT.same("quiet was counted anew", f.x.state(), 1);

        Forger g = Forger.locked(line());
        g.plain(zeros(391) + "111111111");
        EXPECT.same("400 bits, the last nine ones", g.x.state(), 0);

        Forger h = Forger.locked(line());
        h.plain(zeros(390) + "1111011111");
        EXPECT.same("ones that are not in a row", h.x.state(), 0);
    }

    private static void lockLostWhileReading() {
        Forger f = Forger.locked(line());
        // Behind idle the first ones of J would still be ones in a row: a zero before them sets quiet going.
        EXPECT.same("no end yet", f.plain("0" + Bits.JK + zeros(388)), 0);
        EXPECT.same("399 quiet bits", f.x.state(), 2);
        EXPECT.same("the 400th ends it", f.plain("0"), 1);
        EXPECT.same("not locked", f.x.state(), 0);
        EXPECT.same("aborted", f.x.count(ScrambledLine.ABORTED), 1);

        // Quiet is counted from the last ten ones, not from the mark; a frame's own end may come too late.
        String frame = Bits.sent(Bits.frame(ADDRESS, 1));
        Forger g = Forger.locked(line());
        EXPECT.same("its last bit is the 400th", g.plain(zeros(400 - frame.length()) + frame), 1);
        EXPECT.same("it is aborted", g.x.count(ScrambledLine.ABORTED), 1);
        EXPECT.same("it is not good", g.x.count(ScrambledLine.GOOD), 0);
        Forger h = Forger.locked(line());
        EXPECT.same("its last bit is the 399th", h.plain(zeros(399 - frame.length()) + frame), 1);
        EXPECT.same("it is good", h.x.count(ScrambledLine.GOOD), 1);
        EXPECT.same("it is not aborted", h.x.count(ScrambledLine.ABORTED), 0);
    }

    private static void lockFoundAgain() {
        Forger f = Forger.locked(line());
        f.plain(Bits.JK + zeros(391));
        EXPECT.same("not lost: the ones of J were ones of idle", f.x.state(), 2);
        f.plain("0");
        EXPECT.same("lost", f.x.state(), 0);
        f.marks("+".repeat(29));
        EXPECT.same("a run of 29, counted from 0", f.x.state(), 0);
        f.marks("+");
        EXPECT.same("a run of 30", f.x.state(), 1);
        // The line's own idle has ten ones in a row at once, so only a few bits are needed here.
        f.plain("00000");
        EXPECT.same("quiet was counted from 0 again", f.x.state(), 1);
        EXPECT.same("one frame was aborted", f.x.count(ScrambledLine.ABORTED), 1);
    }

    private static void abortedInAGroup() {
        Forger f = Forger.locked(line());
        EXPECT.same("aborted with three bits of a group read", f.plain("0" + Bits.JK + zeros(385) + "1111"), 1);
        EXPECT.same("aborted", f.x.count(ScrambledLine.ABORTED), 1);
        f.marks("+".repeat(30));
        EXPECT.same("the next frame's groups begin anew", f.plain(Bits.JK + Bits.I), 1);
        EXPECT.same("early", f.x.count(ScrambledLine.EARLY), 1);
    }

    private static void tenOnesBehindALock() {
        Forger f = Forger.fresh(new ScrambledLine(1, 8, ADDRESS));
        f.marks("+".repeat(30));
        f.plain("11111111110");
        f.bareLine(398);
        EXPECT.same("ten ones, 399 quiet bits", f.x.state(), 1);
        f.plain("0");
        EXPECT.same("ten ones, 400 quiet bits", f.x.state(), 0);
    }

    /** With seed 1 the scrambler has no ten equal keys in a row for long, so the bare line is quiet to a register of 0. */
    private static void onesCountedAnewBehindALock() {
        Forger f = Forger.fresh(new ScrambledLine(1, 8, ADDRESS));
        f.marks("+".repeat(30));
        f.bareLine(390);
        f.plain("011111111");
        EXPECT.same("399 quiet bits", f.x.state(), 1);
        f.plain("1");
        EXPECT.same("400, the last nine of them ones", f.x.state(), 0);
        f.marks("+".repeat(30));
        f.plain("10");
        f.bareLine(397);
        EXPECT.same("399 quiet bits, the first of them a one", f.x.state(), 1);
        f.plain("0");
        EXPECT.same("that one was the first, not the tenth", f.x.state(), 0);
    }

    private static void countEdges() {
        ScrambledLine x = line();
        int[] bad = {-1, 11, Integer.MIN_VALUE, Integer.MAX_VALUE};
        for (int status : bad) {
            EXPECT.same("count(" + status + ")", x.count(status), ScrambledLine.BAD);
        }
        for (int status = 0; status <= 10; status++) {
            EXPECT.same("count(" + status + ")", x.count(status), 0);
        }
    }

    /** A locked listener that hears J, K and these bits has one frame more with that status, and none with another. */
    private static void ends(String what, String bits, int status) {
        Forger f = Forger.locked(line());
        String heard = Bits.JK + bits;
        EXPECT.same(what + ": before its last bit", f.plain(heard.substring(0, heard.length() - 1)), 0);
        EXPECT.same(what + ": is being read", f.x.state(), 2);
        EXPECT.same(what + ": with its last bit", f.plain(heard.substring(heard.length() - 1)), 1);
        EXPECT.same(what + ": hunting again", f.x.state(), 1);
        for (int s = 0; s <= 10; s++) {
            EXPECT.same(what + ": count " + s, f.x.count(s), s == status ? 1 : 0);
        }
        if (status != ScrambledLine.GOOD) {
            EXPECT.same(what + ": no good frame", f.x.source(), ScrambledLine.BAD);
        }
    }

    private static String frameBits(int... row) {
        return Bits.lead() + Bits.bytes(row) + Bits.TR;
    }

    private static final int[] FINE = Bits.frame(ADDRESS, 8, 1, 2, 3);

    private static void endings() {
        String whole = Bits.lead() + Bits.bytes(FINE);
        ends("fine", whole + Bits.TR, ScrambledLine.GOOD);
        ends("T, I", whole + Bits.T + Bits.I, ScrambledLine.TORN);
        ends("T, T", whole + Bits.T + Bits.T, ScrambledLine.TORN);
        ends("T, J", whole + Bits.T + Bits.J, ScrambledLine.TORN);
        ends("T, nibble 13", whole + Bits.T + Bits.nibbles(13), ScrambledLine.TORN);
        ends("T, 0", whole + Bits.T + zeros(5), ScrambledLine.TORN);
        ends("I", whole + Bits.I, ScrambledLine.EARLY);
        ends("I at once", Bits.I, ScrambledLine.EARLY);
        ends("I behind a fault", zeros(5) + Bits.I, ScrambledLine.EARLY);
        ends("T, I at once", Bits.T + Bits.I, ScrambledLine.TORN);
        ends("torn behind a fault", zeros(5) + Bits.T + Bits.K, ScrambledLine.TORN);
        ends("R without T", whole + Bits.R + Bits.TR, ScrambledLine.FAULTY);
        ends("R, T, T", whole + Bits.R + Bits.T + Bits.T, ScrambledLine.TORN);
    }

    private static void starts() {
        String body = Bits.bytes(FINE) + Bits.TR;
        ends("T, R at once", Bits.TR, ScrambledLine.NO_START);
        ends("only fives", Bits.nibbles(5, 5, 5, 5, 5, 5) + Bits.TR, ScrambledLine.NO_START);
        ends("faults and no start", Bits.nibbles(5, 1, 2) + zeros(5) + Bits.TR, ScrambledLine.NO_START);
        ends("start at once", Bits.nibbles(13) + body, ScrambledLine.GOOD);
        ends("start behind one", Bits.nibbles(5, 13) + body, ScrambledLine.GOOD);
        ends("start behind seven", Bits.nibbles(5, 5, 5, 5, 5, 5, 5, 13) + body, ScrambledLine.GOOD);
        ends("two starts: one is a nibble", Bits.nibbles(5, 13, 13) + body, ScrambledLine.ODD);
        ends("start, five: that is a nibble", Bits.nibbles(5, 13, 5) + body, ScrambledLine.ODD);
        for (int nibble = 0; nibble < 16; nibble++) {
            int due = nibble == 5 ? ScrambledLine.GOOD : nibble == 13 ? ScrambledLine.CHECK : ScrambledLine.FAULTY;
            String lead = nibble == 13 ? Bits.nibbles(13, 5, 5) : Bits.nibbles(5, nibble, 5, 13);
            ends("nibble " + nibble + " before the start", lead + body, due);
        }
    }

    private static void faults() {
        for (int group = 0; group < 31; group++) {
            String text = Integer.toBinaryString(32 + group).substring(1);
            boolean nibble = false;
            for (int n = 0; n < 16; n++) {
                nibble |= Bits.nibbles(n).equals(text);
            }
            if (nibble || text.equals(Bits.T)) {
                continue;
            }
            ends("group " + group + " behind the start", Bits.lead() + text + Bits.bytes(FINE) + Bits.TR,
                    ScrambledLine.FAULTY);
            ends("group " + group + " before the start", text + Bits.lead() + Bits.bytes(FINE) + Bits.TR,
                    ScrambledLine.FAULTY);
        }
        ends("a fault and odd nibbles", Bits.lead() + Bits.J + Bits.nibbles(1) + Bits.TR, ScrambledLine.FAULTY);
    }

    private static void sizes() {
        ends("no nibble", frameBits(), ScrambledLine.SHORT);
        ends("one nibble", Bits.lead() + Bits.nibbles(1) + Bits.TR, ScrambledLine.ODD);
        ends("two nibbles", Bits.lead() + Bits.nibbles(1, 2) + Bits.TR, ScrambledLine.SHORT);
        ends("25 nibbles", Bits.lead() + Bits.bytes(new int[12]) + Bits.nibbles(1) + Bits.TR, ScrambledLine.ODD);
        ends("27 nibbles", Bits.lead() + Bits.bytes(FINE) + Bits.nibbles(1) + Bits.TR, ScrambledLine.ODD);
        ends("12 bytes", frameBits(Bits.withCheck(ADDRESS, 8, 5, 1, 2, 3, 4, 5)), ScrambledLine.SHORT);
        ends("4 bytes", frameBits(Bits.withCheck()), ScrambledLine.SHORT);
        ends("13 bytes", frameBits(Bits.withCheck(ADDRESS, 8, 5, 1, 2, 3, 4, 5, 0)), ScrambledLine.GOOD);
    }

    private static void checks() {
        for (int i = 0; i < FINE.length; i++) {
            for (int bit = 0; bit < 8; bit += 7) {
                int[] row = FINE.clone();
                row[i] ^= 1 << bit;
                ends("byte " + i + " spoilt", frameBits(row), ScrambledLine.CHECK);
            }
        }
        int[] turned = FINE.clone();
        for (int i = 0; i < 4; i++) {
            turned[9 + i] = FINE[12 - i];
        }
        ends("the check turned round", frameBits(turned), ScrambledLine.CHECK);
        ends("13 bytes, no check, a length too great", frameBits(ADDRESS, 8, 99, 0, 0, 0, 0, 0, 0, 0, 0, 0, 0),
                ScrambledLine.CHECK);
    }

    /** A frame with this length byte and so many bytes between it and the check. */
    private static int[] bodied(int target, int length, int body) {
        return Bits.withCheck(Bits.joined(Bits.row(target, 8, length), new int[body]));
    }

    private static void lengths() {
        for (int length = 0; length <= 6; length++) {
            ends("length " + length + ", six bytes", frameBits(bodied(ADDRESS, length, 6)), ScrambledLine.GOOD);
            ends("length " + length + ", seven", frameBits(bodied(ADDRESS, length, 7)), ScrambledLine.LENGTH);
        }
        ends("length 7, six bytes", frameBits(bodied(ADDRESS, 7, 6)), ScrambledLine.LENGTH);
        ends("length 7, seven bytes", frameBits(bodied(ADDRESS, 7, 7)), ScrambledLine.GOOD);
        ends("length 7, eight bytes", frameBits(bodied(ADDRESS, 7, 8)), ScrambledLine.LENGTH);
        ends("length 255", frameBits(bodied(ADDRESS, 255, 6)), ScrambledLine.LENGTH);
        ends("length 24, six bytes", frameBits(bodied(ADDRESS, 24, 6)), ScrambledLine.LENGTH);
        ends("wrong length, another's", frameBits(bodied(ADDRESS + 1, 7, 6)), ScrambledLine.LENGTH);
        ends("bytes that are not 0 behind the data",
                frameBits(Bits.withCheck(ADDRESS, 8, 2, 1, 2, 3, 4, 5, 6)), ScrambledLine.GOOD);
    }

    private static void longestLength() {
        ends("length 24, 24 bytes", frameBits(bodied(ADDRESS, 24, 24)), ScrambledLine.GOOD);
        ends("length 25, 25 bytes", frameBits(bodied(ADDRESS, 25, 25)), ScrambledLine.LENGTH);
        ends("length 26, 26 bytes", frameBits(bodied(ADDRESS, 26, 26)), ScrambledLine.LENGTH);
        // With the start alone for a lead, 36 bytes are the most that fit into 399 bits behind idle.
        ends("length 29, 29 bytes", Bits.nibbles(13) + Bits.bytes(bodied(ADDRESS, 29, 29)) + Bits.TR,
                ScrambledLine.LENGTH);
        ends("36 bytes without a check", Bits.nibbles(13) + Bits.bytes(new int[36]) + Bits.TR, ScrambledLine.CHECK);
    }

    private static void targets() {
        int[] others = {0, 1, ADDRESS - 1, ADDRESS + 1, 254, ADDRESS ^ 128, 8};
        for (int target : others) {
            ends("target " + target, frameBits(bodied(target, 3, 6)), ScrambledLine.OTHER);
        }
        ends("target 255", frameBits(bodied(255, 3, 6)), ScrambledLine.GOOD);
        ends("the listener's own", frameBits(bodied(ADDRESS, 3, 6)), ScrambledLine.GOOD);
    }

    private static void good(ScrambledLine x, String what, int source, int... data) {
        EXPECT.same(what + ": source", x.source(), source);
        EXPECT.same(what + ": length", x.length(), data.length);
        for (int i = 0; i < data.length; i++) {
            EXPECT.same(what + ": byte " + i, x.byteOf(i), data[i]);
        }
        int[] none = {-1, data.length, data.length + 1, 24, 25, Integer.MIN_VALUE, Integer.MAX_VALUE};
        for (int i : none) {
            EXPECT.same(what + ": byteOf(" + i + ")", x.byteOf(i), ScrambledLine.BAD);
        }
    }

    private static void latestGoodFrame() {
        Forger f = Forger.locked(line());
        f.plain(Bits.sent(Bits.frame(ADDRESS, 201, 10, 20, 30)));
        good(f.x, "first", 201, 10, 20, 30);
        f.plain(Bits.sent(Bits.frame(ADDRESS + 1, 77, 99, 98)));
        good(f.x, "behind another's", 201, 10, 20, 30);
        f.idle(20);

        ScrambledLine x = line();
        x.run(60);
        for (int i = 0; i < 24; i++) {
            x.data(250 - i);
        }
        x.send(ADDRESS);
        x.run(400);
        EXPECT.same("length of the longest", x.length(), 24);
        for (int i = 0; i < 24; i++) {
            EXPECT.same("byte " + i + " of the longest", x.byteOf(i), 250 - i);
        }
        EXPECT.same("byte 24", x.byteOf(24), ScrambledLine.BAD);
        x.data(5);
        x.send(ADDRESS);
        x.run(230);
        good(x, "a shorter one", 8, 5);
        x.data(6);
        x.send(ADDRESS);
        x.run(100);
        x.hit(10, 0);
        x.hit(11, 1);
        x.hit(12, 0);
        x.hit(13, 1);
        EXPECT.same("a spoilt one ends", x.run(150), 1);
        EXPECT.same("it is not good", x.count(ScrambledLine.GOOD), 2);
        good(x, "behind a spoilt one", 8, 5);
        x.send(255);
        x.run(230);
        good(x, "without data, to all", 8);
        // Half a frame that has been read is not yet the latest good one.
        x.data(1);
        x.send(ADDRESS);
        x.run(150);
        EXPECT.same("reading", x.state(), 2);
        good(x, "while another is read", 8);
    }

    private static void everyByte() {
        for (int from = 0; from < 256; from += 16) {
            ScrambledLine x = new ScrambledLine(from + 5, from, 255 - from);
            x.run(60);
            for (int i = 0; i < 16; i++) {
                EXPECT.same("data " + (from + i), x.data(from + i), i + 1);
            }
            x.send(255 - from);
            EXPECT.same("the frame ends", x.run(350), 1);
            EXPECT.same("its source", x.source(), from);
            for (int i = 0; i < 16; i++) {
                EXPECT.same("byte " + (from + i), x.byteOf(i), from + i);
            }
        }
    }

    private static void severalFramesInOneRun() {
        ScrambledLine x = line();
        x.run(60);
        x.send(ADDRESS);
        x.send(1);
        EXPECT.same("all but one bit of two frames", x.run(369), 1);
        EXPECT.same("the last bit", x.run(1), 1);
        EXPECT.same("good", x.count(ScrambledLine.GOOD), 1);
        EXPECT.same("another's", x.count(ScrambledLine.OTHER), 1);
        x.send(ADDRESS);
        x.send(ADDRESS);
        EXPECT.same("two frames in one run", x.run(400), 2);
        EXPECT.same("good ones", x.count(ScrambledLine.GOOD), 3);
    }
}
