/** Promise 4: levels that the listener gets in the place of the line's. */
public final class HitTest {
    private static final Expect EXPECT = new Expect();

    public static void main(String[] args) {
        edges();
        refusedHitsChangeNothing();
        lineIsLeftAlone();
        hitIsHeardInItsBitTime();
        hitIsHeardOnce();
        secondHitTakesThePlace();
        sameLevelIsNoHarm();
        markIsAgainstTheLevelHeard();
        EXPECT.end();
    }

    private static void edges() {
        ScrambledLine x = new ScrambledLine(1, 1, 1);
        for (int l = -1; l <= 1; l++) {
            EXPECT.yes("hit(1, " + l + ")", x.hit(1, l));
            EXPECT.yes("hit(100, " + l + ")", x.hit(100, l));
            EXPECT.no("hit(0, " + l + ")", x.hit(0, l));
            EXPECT.no("hit(101, " + l + ")", x.hit(101, l));
            EXPECT.no("hit(-1, " + l + ")", x.hit(-1, l));
            EXPECT.no("hit(MIN, " + l + ")", x.hit(Integer.MIN_VALUE, l));
            EXPECT.no("hit(MAX, " + l + ")", x.hit(Integer.MAX_VALUE, l));
        }
        EXPECT.no("hit(1, 2)", x.hit(1, 2));
        EXPECT.no("hit(1, -2)", x.hit(1, -2));
        EXPECT.no("hit(1, MIN)", x.hit(1, Integer.MIN_VALUE));
        EXPECT.no("hit(1, MAX)", x.hit(1, Integer.MAX_VALUE));
    }

    /** A station in whose next bit times a frame with one byte goes out. */
    private static ScrambledLine atFrame() {
        ScrambledLine x = new ScrambledLine(321, 4, 5);
        x.run(100);
        x.data(66);
        x.send(5);
        return x;
    }

    private static final int FRAME_BITS = 170;

    private static void refusedHitsChangeNothing() {
        ScrambledLine x = atFrame();
        x.run(20);
        for (int k = 1; k <= 100; k++) {
            x.hit(k, 2);
            x.hit(k, -2);
        }
        x.hit(0, 0);
        x.hit(0, 1);
        x.hit(101, 0);
        x.hit(101, 1);
        x.hit(101, -1);
        EXPECT.same("the frame ends", x.run(FRAME_BITS - 20), 1);
        EXPECT.same("and is good", x.count(ScrambledLine.GOOD), 1);
    }

    private static void lineIsLeftAlone() {
        ScrambledLine x = new ScrambledLine(50, 1, 1);
        ScrambledLine same = new ScrambledLine(50, 1, 1);
        for (int k = 1; k <= 60; k++) {
            x.hit(1, k % 3 - 1);
            x.run(1);
            same.run(1);
            EXPECT.same("level of the line at " + k, x.level(), same.level());
            EXPECT.same("the sender's register at " + k, x.register(), same.register());
        }
    }

    /** The line's level in the bit time k from now, seen on another object. */
    private static int levelIn(int k) {
        ScrambledLine twin = atFrame();
        twin.run(k);
        return twin.level();
    }

    private static int anotherLevel(int level) {
        return level == 0 ? 1 : 0;
    }

    private static void hitIsHeardInItsBitTime() {
        int[] times = {1, 2, 50, 99, 100};
        for (int k : times) {
            ScrambledLine x = atFrame();
            x.hit(k, anotherLevel(levelIn(k)));
            x.run(FRAME_BITS);
            EXPECT.same("a hit at " + k, x.count(ScrambledLine.GOOD), 0);
        }
        // Behind the frame's last bit but before the next one, a hit does it no harm.
        ScrambledLine x = atFrame();
        x.run(100);
        x.hit(71, anotherLevel(levelIn(171)));
        EXPECT.same("a hit behind the frame", x.run(FRAME_BITS - 100), 1);
        EXPECT.same("the frame is good", x.count(ScrambledLine.GOOD), 1);
        ScrambledLine y = atFrame();
        y.run(100);
        y.hit(70, anotherLevel(levelIn(170)));
        EXPECT.same("a hit on its last bit", y.run(FRAME_BITS - 100), 1);
        EXPECT.same("the frame is torn", y.count(ScrambledLine.TORN), 1);
    }

    private static void hitIsHeardOnce() {
        ScrambledLine x = new ScrambledLine(321, 4, 5);
        x.run(60);
        for (int k = 1; k <= 100; k++) {
            x.hit(k, k % 2);
        }
        x.run(100);
        x.run(400);
        x.send(5);
        EXPECT.same("a frame long behind the hits", x.run(400), 1);
        EXPECT.same("is good", x.count(ScrambledLine.GOOD), 1);
    }

    private static void secondHitTakesThePlace() {
        ScrambledLine x = atFrame();
        x.run(50);
        x.hit(20, anotherLevel(levelIn(70)));
        x.run(5);
        x.hit(15, levelIn(70));
        x.run(FRAME_BITS - 55);
        EXPECT.same("the second hit is the line's level", x.count(ScrambledLine.GOOD), 1);
        ScrambledLine y = atFrame();
        y.run(50);
        y.hit(20, levelIn(70));
        y.hit(20, anotherLevel(levelIn(70)));
        y.run(FRAME_BITS - 50);
        EXPECT.same("the second hit is another level", y.count(ScrambledLine.GOOD), 0);
    }

    private static void sameLevelIsNoHarm() {
        ScrambledLine x = atFrame();
        x.run(30);
        for (int k = 1; k <= 100; k++) {
            x.hit(k, levelIn(30 + k));
        }
        x.run(FRAME_BITS - 30);
        EXPECT.same("hits with the line's own levels", x.count(ScrambledLine.GOOD), 1);
    }

    /** The levels 1 and -1 are no more apart than 0 and 1: a mark is a mark; and a hit is what it is held against. */
    private static void markIsAgainstTheLevelHeard() {
        int[][] rows = {{1, 0}, {1, -1}, {-1, 1}, {-1, 0}};
        for (int[] row : rows) {
            ScrambledLine x = new ScrambledLine(3, 1, 1);
            for (int k = 1; k <= 30; k++) {
                x.hit(k, row[(k + 1) % 2]);
            }
            x.run(29);
            EXPECT.same("29 marks", x.state(), 0);
            x.run(1);
            EXPECT.same("30 marks", x.state(), 1);
        }
        ScrambledLine x = new ScrambledLine(3, 1, 1);
        x.hit(1, 0);
        for (int k = 2; k <= 30; k++) {
            x.hit(k, k % 2 == 0 ? 1 : -1);
        }
        x.run(30);
        EXPECT.same("the first level, 0, is no mark", x.state(), 0);
    }
}
