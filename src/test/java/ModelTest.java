import java.util.Random;

/** All promises together: many runs of calls, the program's answers against the model's. */
public final class ModelTest {
    private static final Expect EXPECT = new Expect();
    private static final int OBJECTS = 400;
    private static final int CALLS = 512;
    private static final int DEAREST_ACT = 30;

    private final Random random;
    private final String name;
    private final ScrambledLine x;
    private final Model m;
    private final int address;
    private int calls = 0;

    private ModelTest(int number) {
        random = new Random(number);
        name = "object " + number;
        int seed = random.nextInt(5) == 0 ? random.nextInt() : random.nextInt(2048);
        int source = random.nextInt(5) == 0 ? random.nextInt() : random.nextInt(256);
        int target = random.nextInt(5) == 0 ? random.nextInt() : random.nextInt(256);
        x = new ScrambledLine(seed, source, target);
        m = new Model(seed, source, target);
        address = Math.floorMod(target, 256);
    }

    public static void main(String[] args) {
        int[] reached = new int[11];
        for (int number = 0; number < OBJECTS; number++) {
            ModelTest test = new ModelTest(number);
            while (test.calls <= CALLS - DEAREST_ACT) {
                test.act();
            }
            for (int s = 0; s <= 10; s++) {
                reached[s] += test.m.counts[s];
            }
        }
        System.out.println("frames by status: " + java.util.Arrays.toString(reached));
        EXPECT.end();
    }

    private void same(String call, long got, long due) {
        calls++;
        EXPECT.same(name + ", call " + calls + ": " + call, got, due);
    }

    private void act() {
        int kind = random.nextInt(20);
        if (kind < 4) {
            give();
        } else if (kind < 6) {
            send(random.nextInt(12));
        } else if (kind < 9) {
            hits();
        } else if (kind < 15) {
            run(1 + random.nextInt(random.nextBoolean() ? 400 : 60));
        } else if (kind < 16) {
            wrong();
        } else {
            look();
        }
    }

    private void give() {
        int n = random.nextInt(4) == 0 ? random.nextInt(27) : random.nextInt(6);
        for (int i = 0; i < n; i++) {
            int b = random.nextInt(256);
            same("data(" + b + ")", x.data(b), m.data(b));
        }
    }

    private void send(int choice) {
        int target = choice == 0 ? 255 : choice == 1 ? random.nextInt(256) : address;
        same("send(" + target + ")", x.send(target), m.send(target));
    }

    private void hits() {
        int n = random.nextInt(4) == 0 ? random.nextInt(30) : random.nextInt(3);
        int from = 1 + random.nextInt(100);
        for (int i = 0; i < n; i++) {
            int k = random.nextInt(3) == 0 ? 1 + random.nextInt(100) : from + i;
            int l = random.nextInt(3) - 1;
            same("hit(" + k + ", " + l + ")", x.hit(k, l) ? 1 : 0, m.hit(k, l) ? 1 : 0);
        }
    }

    private void run(int n) {
        same("run(" + n + ")", x.run(n), m.run(n));
    }

    private void wrong() {
        int[] numbers = {-1, 0, 256, 401, 101, 11, Integer.MIN_VALUE, Integer.MAX_VALUE};
        int n = numbers[random.nextInt(numbers.length)];
        same("data(" + n + ")", x.data(n), m.data(n));
        same("send(" + n + ")", x.send(n), m.send(n));
        same("hit(" + n + ", 0)", x.hit(n, 0) ? 1 : 0, m.hit(n, 0) ? 1 : 0);
        same("hit(1, " + n + ")", x.hit(1, n) ? 1 : 0, m.hit(1, n) ? 1 : 0);
        same("run(" + n + ")", x.run(n), m.run(n));
        same("count(" + n + ")", x.count(n), m.count(n));
        same("byteOf(" + n + ")", x.byteOf(n), m.byteOf(n));
    }

    private void look() {
        same("waiting()", x.waiting(), m.waiting());
        same("sending()", x.sending() ? 1 : 0, m.sending() ? 1 : 0);
        same("level()", x.level(), m.level());
        same("register()", x.register(), m.register());
        same("state()", x.state(), m.state());
        same("source()", x.source(), m.source());
        same("length()", x.length(), m.length());
        int status = random.nextInt(11);
        same("count(" + status + ")", x.count(status), m.count(status));
        int i = random.nextInt(25);
        same("byteOf(" + i + ")", x.byteOf(i), m.byteOf(i));
    }
}
