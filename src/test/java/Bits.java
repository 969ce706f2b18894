import java.util.zip.CRC32;

/** What goes out for frames, as texts of 0 and 1, made from the document and not from the program. */
final class Bits {
    static final String I = "11111", J = "11000", K = "10001", T = "01101", R = "00111";
    static final String JK = J + K;
    static final String TR = T + R;
    private static final String[] NIBBLES = {
        "11110", "01001", "10100", "10101", "01010", "01011", "01110", "01111",
        "10010", "10011", "10110", "10111", "11010", "11011", "11100", "11101"};

    private Bits() {
    }

    static String nibbles(int... row) {
        StringBuilder text = new StringBuilder();
        for (int nibble : row) {
            text.append(NIBBLES[nibble]);
        }
        return text.toString();
    }

    static String lead() {
        return nibbles(5, 5, 5, 13);
    }

    static String bytes(int... row) {
        StringBuilder text = new StringBuilder();
        for (int b : row) {
            text.append(nibbles(b % 16, b / 16));
        }
        return text.toString();
    }

    static int[] row(int... bytes) {
        return bytes;
    }

    static int[] joined(int[] a, int[] b) {
        int[] all = java.util.Arrays.copyOf(a, a.length + b.length);
        System.arraycopy(b, 0, all, a.length, b.length);
        return all;
    }

    static int[] withCheck(int... row) {
        CRC32 crc = new CRC32();
        for (int b : row) {
            crc.update(b);
        }
        int c = (int) crc.getValue();
        return joined(row, row(c & 255, (c >> 8) & 255, (c >> 16) & 255, (c >> 24) & 255));
    }

    /** The bytes of a frame as the sender has to make it. */
    static int[] frame(int target, int source, int... data) {
        int[] padded = java.util.Arrays.copyOf(data, Math.max(6, data.length));
        return withCheck(joined(row(target, source, data.length), padded));
    }

    /** All that goes out for a frame of these bytes. */
    static String sent(int... frame) {
        return JK + lead() + bytes(frame) + TR;
    }
}
