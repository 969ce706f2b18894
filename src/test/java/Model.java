import java.util.ArrayDeque;
import java.util.ArrayList;
import java.util.HashMap;
import java.util.List;
import java.util.Map;

/** The document once more, written with texts and lists: slow, and built in another way than the program. */
final class Model {
    private final int source;
    private final int address;
    private final List<Integer> given = new ArrayList<>();
    private final ArrayDeque<String> waiting = new ArrayDeque<>();
    private final Map<Integer, Integer> hits = new HashMap<>();
    private String out = "";
    private boolean outIsFrame = false;
    private int idlesSent = 0;
    private String register;
    private long moves = 0;
    private int now = 0;

    private String heardRegister = "00000000000";
    private int heardLevel = 0;
    private boolean locked = false;
    private int run = 0;
    private String onesInARow = "";
    private int quiet = 0;
    private String hunted = "";
    private String read = null;
    final int[] counts = new int[11];
    private List<Integer> good = null;

    Model(int seed, int source, int target) {
        int start = (int) ((seed + (1L << 40)) % 2048);
        register = Integer.toBinaryString(2048 + (start == 0 ? 1 : start)).substring(1);
        this.source = (int) ((source + (1L << 40)) % 256);
        this.address = (int) ((target + (1L << 40)) % 256);
    }

    int data(int b) {
        if (b < 0 || b > 255) return -1;
        if (given.size() == 24) return -2;
        given.add(b);
        return given.size();
    }

    int send(int target) {
        if (target < 0 || target > 255) return -1;
        if (waiting.size() == 4) return -2;
        int[] data = new int[given.size()];
        for (int i = 0; i < data.length; i++) data[i] = given.get(i);
        waiting.add(Bits.sent(Bits.frame(target, source, data)));
        given.clear();
        return waiting.size();
    }

    boolean hit(int k, int l) {
        if (k < 1 || k > 100 || l < -1 || l > 1) return false;
        hits.put(now + k, l);
        return true;
    }

    int run(int n) {
        if (n < 1 || n > 400) return -1;
        int before = total();
        for (int i = 0; i < n; i++) bitTime();
        return total() - before;
    }

    int total() {
        int sum = 0;
        for (int c : counts) sum += c;
        return sum;
    }

    int waiting() { return waiting.size(); }
    boolean sending() { return outIsFrame && !out.isEmpty(); }
    int level() { return moves % 4 == 1 ? 1 : moves % 4 == 3 ? -1 : 0; }
    int register() { return Integer.parseInt(register, 2); }
    int state() { return !locked ? 0 : read == null ? 1 : 2; }
    int count(int status) { return status < 0 || status > 10 ? -1 : counts[status]; }
    int source() { return good == null ? -1 : good.get(1); }
    int length() { return good == null ? -1 : good.get(2); }
    int byteOf(int i) { return good == null || i < 0 || i >= good.get(2) ? -1 : good.get(3 + i); }

    /** Bit 0 is the text's last character, so that bit 8 is its third and bit 10 its first. */
    private static int key(String register) {
        return register.charAt(2) == register.charAt(0) ? 0 : 1;
    }

    /** The levels that make its listener, once it has locked, get these plain bits; for each mark one of two is chosen. */
    int[] levelsFor(String plain, java.util.Random random) {
        int[] levels = new int[plain.length()];
        String register = heardRegister;
        int before = heardLevel;
        for (int i = 0; i < levels.length; i++) {
            int key = key(register);
            register = register.substring(1) + key;
            if (plain.charAt(i) - '0' != key) before = (before + 1 + 1 + random.nextInt(2)) % 3 - 1;
            levels[i] = before;
        }
        return levels;
    }

    private void bitTime() {
        now++;
        if (out.isEmpty()) {
            if (outIsFrame) idlesSent = 0;
            outIsFrame = idlesSent >= 6 && !waiting.isEmpty();
            out = outIsFrame ? waiting.remove() : Bits.I;
            if (!outIsFrame) idlesSent++;
        }
        int key = key(register);
        register = register.substring(1) + key;
        if (out.charAt(0) - '0' != key) moves++;
        out = out.substring(1);
        Integer hit = hits.remove(now);
        hear(hit == null ? level() : hit);
    }

    private void hear(int level) {
        int mark = level == heardLevel ? 0 : 1;
        heardLevel = level;
        int key = key(heardRegister);
        if (!locked) {
            run = key != mark ? run + 1 : 0;
            heardRegister = heardRegister.substring(1) + (1 - mark);
            if (run == 30) {
                locked = true;
                hunted = "";
                onesInARow = "";
                quiet = 0;
            }
            return;
        }
        heardRegister = heardRegister.substring(1) + key;
        String plain = mark == key ? "0" : "1";
        onesInARow = plain.equals("1") ? onesInARow + plain : "";
        quiet = onesInARow.length() >= 10 ? 0 : quiet + 1;
        if (quiet == 400) {
            if (read != null) counts[10]++;
            read = null;
            locked = false;
            run = 0;
            return;
        }
        if (read == null) {
            hunted += plain;
            if (hunted.endsWith("1100010001")) read = "";
            return;
        }
        read += plain;
        int status = ending(read);
        if (status >= 0) {
            counts[status]++;
            read = null;
            hunted = "";
        }
    }

    /** A frame looked at anew from its first group with each bit: its status if it ends here, otherwise -1. */
    private int ending(String bits) {
        if (bits.length() % 5 != 0) return -1;
        List<String> groups = new ArrayList<>();
        for (int i = 0; i < bits.length(); i += 5) groups.add(bits.substring(i, i + 5));
        int last = groups.size() - 1;
        if (last > 0 && groups.get(last - 1).equals(Bits.T)) {
            return groups.get(last).equals(Bits.R) ? judged(groups.subList(0, last - 1)) : 9;
        }
        return groups.get(last).equals(Bits.I) ? 8 : -1;
    }

    private static int nibble(String group) {
        for (int n = 0; n < 16; n++) {
            if (Bits.nibbles(n).equals(group)) return n;
        }
        return -1;
    }

    private int judged(List<String> groups) {
        List<Integer> nibbles = new ArrayList<>();
        for (String g : groups) nibbles.add(nibble(g));
        int start = nibbles.indexOf(13);
        if (start < 0) return 1;
        for (int i = 0; i < nibbles.size(); i++) {
            if (nibbles.get(i) < 0 || i < start && nibbles.get(i) != 5) return 2;
        }
        nibbles = nibbles.subList(start + 1, nibbles.size());
        if (nibbles.size() % 2 == 1) return 3;
        if (nibbles.size() < 26) return 4;
        int[] row = new int[nibbles.size() / 2];
        for (int i = 0; i < row.length; i++) row[i] = nibbles.get(2 * i) + 16 * nibbles.get(2 * i + 1);
        int[] body = java.util.Arrays.copyOf(row, row.length - 4);
        if (!java.util.Arrays.equals(Bits.withCheck(body), row)) return 5;
        if (row[2] > 24 || body.length != 3 + (row[2] < 6 ? 6 : row[2])) return 6;
        if (row[0] != address && row[0] != 255) return 7;
        good = new ArrayList<>();
        for (int b : row) good.add(b);
        return 0;
    }
}
