import java.util.function.Supplier;

/** Reads the bits back that a station puts on the line. */
final class Tap {
    /** An object is good for 512 calls, and each bit takes two here: some are left for the making. */
    private static final int BITS_OF_ONE = 150;

    private Tap() {
    }

    /** The register so many bit times behind the one that a station began with. */
    static int registerAt(int seed, int bitTimes) {
        int register = seed;
        for (int i = 0; i < bitTimes; i++) {
            register = (2 * register + key(register)) % 2048;
        }
        return register;
    }

    static int key(int register) {
        return (register / 256 % 2 + register / 1024) % 2;
    }

    static void go(ScrambledLine x, int bitTimes) {
        for (int left = bitTimes; left > 0; left -= 400) {
            x.run(Math.min(400, left));
        }
    }

    /** So many bits behind the first ones, of stations that are made alike and began with this register. */
    static String bits(Supplier<ScrambledLine> station, int seed, int from, int count) {
        StringBuilder text = new StringBuilder();
        for (int at = from; at < from + count; at += BITS_OF_ONE) {
            ScrambledLine x = station.get();
            go(x, at);
            readOn(x, registerAt(seed, at), Math.min(BITS_OF_ONE, from + count - at), text);
        }
        return text.toString();
    }

    private static void readOn(ScrambledLine x, int registerThere, int count, StringBuilder text) {
        int register = registerThere;
        int before = x.level();
        for (int i = 0; i < count; i++) {
            x.run(1);
            int level = x.level();
            text.append((level != before ? 1 : 0) ^ key(register));
            register = (2 * register + key(register)) % 2048;
            before = level;
        }
    }
}
