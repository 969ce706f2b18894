import java.util.Arrays;
import java.util.Random;

/** Frames that no sender makes, forged by hits: the program's answers against the model's. */
public final class ForgedModelTest {
    private static final Expect EXPECT = new Expect();
    private static final int OBJECTS = 1200;
    private static final int CALLS = 512;
    /** What looking at all answers takes. */
    private static final int LOOKS = 45;
    private static final int ADDRESS = 90;

    private final Random random;
    private final String name;
    private final ScrambledLine x;
    private final Model m;
    private int calls = 0;

    private ForgedModelTest(int number) {
        random = new Random(number);
        name = "object " + number;
        int seed = random.nextInt(2048);
        x = new ScrambledLine(seed, 8, ADDRESS);
        m = new Model(seed, 8, ADDRESS);
    }

    public static void main(String[] args) {
        int[] reached = new int[11];
        for (int number = 0; number < OBJECTS; number++) {
            ForgedModelTest test = new ForgedModelTest(number);
            test.go();
            for (int s = 0; s <= 10; s++) {
                reached[s] += test.m.counts[s];
            }
        }
        System.out.println("frames by status: " + Arrays.toString(reached));
        for (int s = 0; s <= 10; s++) {
            EXPECT.yes("status " + s + " was reached often", reached[s] >= 20);
        }
        EXPECT.end();
    }

    private void go() {
        run(45 + random.nextInt(60));
        int tooLong = 0;
        while (tooLong < 20) {
            String bits = random.nextInt(12) == 0 ? quiet() : frame();
            if (calls + bits.length() + bits.length() / 100 + 2 + LOOKS > CALLS) {
                tooLong++;
            } else {
                // Without idle between frames the lock is lost in the third at the latest.
                run(1 + random.nextInt(60));
                hear(bits);
            }
        }
        look();
    }

    private void same(String call, long got, long due) {
        calls++;
        EXPECT.same(name + ", call " + calls + ": " + call, got, due);
    }

    private void run(int n) {
        same("run(" + n + ")", x.run(n), m.run(n));
    }

    private void hear(String bits) {
        for (int from = 0; from < bits.length(); from += 100) {
            String part = bits.substring(from, Math.min(bits.length(), from + 100));
            int[] levels = m.levelsFor(part, random);
            for (int k = 1; k <= levels.length; k++) {
                int l = levels[k - 1];
                same("hit(" + k + ", " + l + ")", x.hit(k, l) ? 1 : 0, m.hit(k, l) ? 1 : 0);
            }
            run(part.length());
        }
    }

    private boolean seldom() {
        return random.nextInt(9) == 0;
    }

    private String anyGroup() {
        return Integer.toBinaryString(32 + random.nextInt(32)).substring(1);
    }

    /** Bits without ten ones in a row, some 400 of them, perhaps in a frame. */
    private String quiet() {
        StringBuilder text = new StringBuilder(random.nextBoolean() ? "0" + Bits.JK : "0");
        int size = 385 + random.nextInt(20);
        while (text.length() < size) {
            text.append(Bits.nibbles(random.nextInt(16)));
        }
        return text.toString();
    }

    private String frame() {
        String lead = Bits.nibbles(5).repeat(random.nextInt(5));
        lead += seldom() ? Bits.nibbles(random.nextInt(16)) : "";
        lead += seldom() ? "" : Bits.nibbles(13);
        String end = seldom() ? Bits.T + anyGroup() : seldom() ? Bits.I : Bits.TR;
        return Bits.JK + lead + spoilt(Bits.bytes(bytes())) + end;
    }

    /** A group too much, a group too little or another one, now and then. */
    private String spoilt(String groups) {
        int at = groups.isEmpty() ? 0 : 5 * random.nextInt(groups.length() / 5);
        if (seldom()) {
            return groups.substring(0, at) + anyGroup() + groups.substring(at);
        }
        return seldom() && !groups.isEmpty() ? groups.substring(0, at) + groups.substring(at + 5) : groups;
    }

    private int[] bytes() {
        if (seldom()) {
            return Bits.withCheck(new int[random.nextInt(14)]);
        }
        int length = seldom() ? random.nextInt(256) : random.nextInt(27);
        int body = Math.max(6, Math.min(length, 27)) + (seldom() ? 1 : seldom() ? -1 : 0);
        int[] row = new int[3 + body];
        for (int i = 0; i < row.length; i++) {
            row[i] = random.nextInt(256);
        }
        row[0] = seldom() ? random.nextInt(256) : random.nextBoolean() ? 255 : ADDRESS;
        row[2] = length;
        int[] whole = Bits.withCheck(row);
        if (seldom()) {
            whole[random.nextInt(whole.length)] ^= 1 << random.nextInt(8);
        }
        return whole;
    }

    private void look() {
        same("state()", x.state(), m.state());
        same("level()", x.level(), m.level());
        same("register()", x.register(), m.register());
        same("source()", x.source(), m.source());
        same("length()", x.length(), m.length());
        for (int status = -1; status <= 11; status++) {
            same("count(" + status + ")", x.count(status), m.count(status));
        }
        for (int i = -1; i <= 25; i++) {
            same("byteOf(" + i + ")", x.byteOf(i), m.byteOf(i));
        }
    }
}
