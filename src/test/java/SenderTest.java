/** Promises 1, 2, 3, 6, 7, 8 and 9: what is given, what waits and what goes on the line. */
public final class SenderTest {
    private static final Expect EXPECT = new Expect();

    public static void main(String[] args) {
        newObject();
        seeds();
        addresses();
        dataEdges();
        sendEdges();
        dataStaysBehindBadAndFull();
        dataIsGoneBehindSend();
        idleOnTheLine();
        framesOnTheLine();
        earliestFrame();
        sixIdlesBetweenFrames();
        frameBegunAtAGroupsBeginning();
        orderOfFrames();
        runEdges();
        EXPECT.end();
    }

    private static void newObject() {
        ScrambledLine x = new ScrambledLine(77, 1, 2);
        EXPECT.same("new: waiting", x.waiting(), 0);
        EXPECT.no("new: sending", x.sending());
        EXPECT.same("new: level", x.level(), 0);
        EXPECT.same("new: register", x.register(), 77);
        EXPECT.same("new: state", x.state(), 0);
        for (int status = 0; status <= 10; status++) {
            EXPECT.same("new: count " + status, x.count(status), 0);
        }
        EXPECT.same("new: source", x.source(), ScrambledLine.BAD);
        EXPECT.same("new: length", x.length(), ScrambledLine.BAD);
        EXPECT.same("new: byteOf(0)", x.byteOf(0), ScrambledLine.BAD);
        EXPECT.same("new: byteOf(-1)", x.byteOf(-1), ScrambledLine.BAD);
        EXPECT.same("new: byteOf(-2)", x.byteOf(-2), ScrambledLine.BAD);
    }

    private static void seeds() {
        int[][] seedAndDue = {{0, 1}, {1, 1}, {2047, 2047}, {2048, 1}, {2049, 1}, {2050, 2}, {-1, 2047}, {-2048, 1},
            {-2049, 2047}, {-2047, 1}, {-2046, 2}, {Integer.MIN_VALUE, 1}, {Integer.MAX_VALUE, 2047}, {4096 + 300, 300}};
        for (int[] pair : seedAndDue) {
            EXPECT.same("seed " + pair[0], new ScrambledLine(pair[0], 0, 0).register(), pair[1]);
        }
    }

    private static void addresses() {
        int[][] givenAndDue = {{0, 0}, {255, 255}, {256, 0}, {-1, 255}, {-256, 0}, {-257, 255}, {1000, 232},
            {Integer.MIN_VALUE, 0}, {Integer.MAX_VALUE, 255}};
        for (int[] pair : givenAndDue) {
            ScrambledLine x = new ScrambledLine(9, pair[0], 40);
            x.run(100);
            x.send(40);
            x.run(400);
            EXPECT.same("source " + pair[0], x.source(), pair[1]);

            ScrambledLine y = new ScrambledLine(9, 3, pair[0]);
            y.run(100);
            y.send(pair[1]);
            y.run(400);
            EXPECT.same("target " + pair[0], y.count(ScrambledLine.GOOD), 1);
        }
    }

    private static void dataEdges() {
        ScrambledLine x = new ScrambledLine(1, 1, 1);
        EXPECT.same("data(-1)", x.data(-1), ScrambledLine.BAD);
        EXPECT.same("data(256)", x.data(256), ScrambledLine.BAD);
        EXPECT.same("data(MIN)", x.data(Integer.MIN_VALUE), ScrambledLine.BAD);
        EXPECT.same("data(MAX)", x.data(Integer.MAX_VALUE), ScrambledLine.BAD);
        for (int i = 1; i <= 24; i++) {
            EXPECT.same("data " + i, x.data(i % 2 == 0 ? 0 : 255), i);
        }
        EXPECT.same("the 25th", x.data(0), ScrambledLine.FULL);
        EXPECT.same("the 25th, bad too", x.data(256), ScrambledLine.BAD);
        EXPECT.same("the 25th, bad below too", x.data(-1), ScrambledLine.BAD);
        EXPECT.same("still full", x.data(255), ScrambledLine.FULL);
        EXPECT.same("data makes nothing wait", x.waiting(), 0);
    }

    private static void sendEdges() {
        ScrambledLine x = new ScrambledLine(1, 1, 1);
        EXPECT.same("send(-1)", x.send(-1), ScrambledLine.BAD);
        EXPECT.same("send(256)", x.send(256), ScrambledLine.BAD);
        EXPECT.same("send(MIN)", x.send(Integer.MIN_VALUE), ScrambledLine.BAD);
        EXPECT.same("none waits behind BAD", x.waiting(), 0);
        for (int i = 1; i <= 4; i++) {
            EXPECT.same("send " + i, x.send(i % 2 == 0 ? 0 : 255), i);
            EXPECT.same("waiting " + i, x.waiting(), i);
        }
        EXPECT.same("the fifth", x.send(5), ScrambledLine.FULL);
        EXPECT.same("the fifth, bad too", x.send(256), ScrambledLine.BAD);
        EXPECT.same("four wait", x.waiting(), 4);
        x.run(30);
        EXPECT.same("four wait until a bit goes out", x.waiting(), 4);
        EXPECT.same("still full", x.send(5), ScrambledLine.FULL);
        x.run(1);
        EXPECT.same("the one being sent waits no more", x.waiting(), 3);
        EXPECT.same("there is room again", x.send(5), 4);
        EXPECT.same("and no more of it", x.send(5), ScrambledLine.FULL);
    }

    private static void dataStaysBehindBadAndFull() {
        ScrambledLine x = new ScrambledLine(1, 1, 7);
        x.data(11);
        x.data(12);
        x.send(256);
        EXPECT.same("data stays behind BAD", x.data(13), 3);
        x.data(-5);
        EXPECT.same("bad data is none", x.data(14), 4);
        x.send(7);
        x.send(9);
        x.send(9);
        x.send(9);
        x.data(21);
        x.data(22);
        EXPECT.same("a fifth", x.send(7), ScrambledLine.FULL);
        EXPECT.same("data stays behind FULL", x.data(23), 3);
    }

    private static void dataIsGoneBehindSend() {
        ScrambledLine x = new ScrambledLine(1, 1, 7);
        x.run(100);
        x.data(11);
        x.data(12);
        x.send(7);
        EXPECT.same("data is counted anew", x.data(13), 1);
        x.run(400);
        EXPECT.same("the first frame's length", x.length(), 2);
        EXPECT.same("its byte 0", x.byteOf(0), 11);
        EXPECT.same("its byte 1", x.byteOf(1), 12);
        x.send(7);
        x.run(400);
        EXPECT.same("the second frame's length", x.length(), 1);
        EXPECT.same("its byte", x.byteOf(0), 13);
        EXPECT.same("its byte 1", x.byteOf(1), ScrambledLine.BAD);
    }

    /** A line with frames given before its first bit time, each with its data. */
    private static ScrambledLine lineWith(int seed, int[][] frames) {
        ScrambledLine x = new ScrambledLine(seed, 17, 200);
        for (int[] frame : frames) {
            for (int i = 1; i < frame.length; i++) {
                x.data(frame[i]);
            }
            x.send(frame[0]);
        }
        return x;
    }

    private static void go(ScrambledLine x, int n) {
        for (int left = n; left > 0; left -= 400) {
            x.run(Math.min(400, left));
        }
    }

    /** The levels and registers of so many bit times against those that these bits ask for. */
    private static void line(String what, int seed, int[][] frames, String bits) {
        int[] around = {0, 1, 0, -1};
        int register = seed;
        int at = 0;
        for (int t = 1; t <= bits.length(); t++) {
            int key = ((register & 256) == 0) == ((register & 1024) == 0) ? 0 : 1;
            register = (register * 2 + key) & 2047;
            if (bits.charAt(t - 1) - '0' != key) {
                at = (at + 1) % 4;
            }
            // A new object for each bit time: none is used for more than 512 calls.
            ScrambledLine x = lineWith(seed, frames);
            go(x, t);
            EXPECT.same(what + ": level at " + t, x.level(), around[at]);
            EXPECT.same(what + ": register at " + t, x.register(), register);
        }
    }

    private static void idleOnTheLine() {
        line("idle", 1, new int[0][], Bits.I.repeat(100));
        line("idle", 1365, new int[0][], Bits.I.repeat(20));
    }

    private static void framesOnTheLine() {
        String idles = Bits.I.repeat(6);
        int[][] none = {{200}};
        line("no data", 5, none, idles + Bits.sent(Bits.frame(200, 17)) + idles);
        int[][] one = {{0, 0xA7}};
        line("one byte", 900, one, idles + Bits.sent(Bits.frame(0, 17, 0xA7)) + idles);
        int[][] five = {{255, 1, 35, 69, 103, 137}};
        line("five", 2047, five, idles + Bits.sent(Bits.frame(255, 17, 1, 35, 69, 103, 137)) + idles);
        int[][] six = {{1, 171, 205, 239, 16, 50, 84}};
        line("six", 2047, six, idles + Bits.sent(Bits.frame(1, 17, 171, 205, 239, 16, 50, 84)) + idles);
        int[][] seven = {{1, 118, 152, 186, 220, 254, 0, 1}};
        line("seven", 2047, seven, idles + Bits.sent(Bits.frame(1, 17, 118, 152, 186, 220, 254, 0, 1)) + idles);
        int[] full = new int[24];
        int[][] most = {new int[25]};
        most[0][0] = 77;
        for (int i = 0; i < 24; i++) {
            full[i] = (i * 53 + 200) % 256;
            most[0][i + 1] = full[i];
        }
        line("24", 33, most, idles + Bits.sent(Bits.frame(77, 17, full)) + idles);
    }

    private static void sixIdlesBetweenFrames() {
        String idles = Bits.I.repeat(6);
        int[][] frames = {{200, 1, 2, 3, 4, 5, 6, 7, 8}, {3, 9}, {4}};
        line("three frames", 444, frames,
                idles + Bits.sent(Bits.frame(200, 17, 1, 2, 3, 4, 5, 6, 7, 8))
                + idles + Bits.sent(Bits.frame(3, 17, 9))
                + idles + Bits.sent(Bits.frame(4, 17)) + idles + idles);
    }

    private static void earliestFrame() {
        ScrambledLine x = new ScrambledLine(12, 1, 1);
        x.send(1);
        x.run(29);
        EXPECT.same("it waits in the sixth I", x.waiting(), 1);
        EXPECT.no("nothing of it is sent", x.sending());
        x.run(1);
        EXPECT.same("it waits behind the sixth I", x.waiting(), 1);
        EXPECT.no("nothing of it is sent yet", x.sending());
        x.run(1);
        EXPECT.same("it is being sent", x.waiting(), 0);
        EXPECT.yes("its first bit has gone out", x.sending());
        int bits = Bits.sent(Bits.frame(1, 1)).length();
        x.run(bits - 2);
        EXPECT.yes("all but one bit have gone out", x.sending());
        x.run(1);
        EXPECT.no("all bits have gone out", x.sending());
        x.send(1);
        x.run(30);
        EXPECT.no("six I between frames", x.sending());
        x.run(1);
        EXPECT.yes("no more than six", x.sending());
    }

    private static void frameBegunAtAGroupsBeginning() {
        for (int extra = 0; extra < 5; extra++) {
            ScrambledLine x = new ScrambledLine(12, 1, 1);
            x.run(100 + extra);
            x.send(1);
            EXPECT.no("given, not sent", x.sending());
            int rest = (5 - extra) % 5;
            if (rest > 0) {
                x.run(rest);
            }
            EXPECT.no("an I goes out whole, " + extra, x.sending());
            EXPECT.same("waiting, " + extra, x.waiting(), 1);
            x.run(1);
            EXPECT.yes("begun behind it, " + extra, x.sending());
            EXPECT.same("waiting no more, " + extra, x.waiting(), 0);
        }
    }

    private static void orderOfFrames() {
        ScrambledLine x = new ScrambledLine(60, 1, 1);
        x.run(60);
        int next = 0;
        for (int i = 0; i < 4; i++) {
            x.data(100 + next++);
            x.send(1);
        }
        // A frame with one byte has 34 groups and six I before it: 200 bit times.
        for (int i = 0; i < 10; i++) {
            x.run(200);
            EXPECT.same("frame " + i, x.byteOf(0), 100 + i);
            x.data(100 + next++);
            x.send(1);
        }
    }

    private static void runEdges() {
        int[] bad = {0, -1, 401, Integer.MIN_VALUE, Integer.MAX_VALUE};
        ScrambledLine x = new ScrambledLine(60, 1, 1);
        x.run(7);
        int register = x.register();
        int level = x.level();
        for (int n : bad) {
            EXPECT.same("run(" + n + ")", x.run(n), ScrambledLine.BAD);
            EXPECT.same("register behind run(" + n + ")", x.register(), register);
            EXPECT.same("level behind run(" + n + ")", x.level(), level);
        }
        ScrambledLine whole = new ScrambledLine(60, 1, 1);
        ScrambledLine pieces = new ScrambledLine(60, 1, 1);
        EXPECT.same("run(400)", whole.run(400), 0);
        for (int i = 0; i < 400; i++) {
            pieces.run(1);
        }
        EXPECT.same("400 bit times, register", pieces.register(), whole.register());
        EXPECT.same("400 bit times, level", pieces.level(), whole.level());
    }
}
