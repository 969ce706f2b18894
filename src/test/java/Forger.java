/** Makes a listener hear bits of the test's choosing, by a hit in every bit time. */
final class Forger {
    final ScrambledLine x;
    private int register;
    private int levelBefore;

    private Forger(ScrambledLine x) {
        this.x = x;
    }

    /** A new listener, its register still 0. */
    static Forger fresh(ScrambledLine x) {
        return new Forger(x);
    }

    /** A listener that has locked on idle, so that its register is the sender's. */
    static Forger locked(ScrambledLine x) {
        Forger f = new Forger(x);
        f.idle(60);
        return f;
    }

    /** A listener that has just locked, quiet 0 and no ones, with its register 0: there a plain bit is a mark. */
    static Forger justLocked(ScrambledLine x) {
        Forger f = new Forger(x);
        f.marks("+".repeat(30));
        return f;
    }

    /** The status of the one frame that these bits end, -1 if none ends, -2 if several do. */
    int statusOf(String bits) {
        int[] before = counts();
        int ended = plain(bits);
        if (ended != 1) {
            return ended == 0 ? -1 : -2;
        }
        int[] behind = counts();
        for (int status = 0; status <= 10; status++) {
            if (behind[status] == before[status] + 1) {
                return status;
            }
        }
        return -2;
    }

    private int[] counts() {
        int[] row = new int[11];
        for (int status = 0; status <= 10; status++) {
            row[status] = x.count(status);
        }
        return row;
    }

    /** Undisturbed bit times: how many frames ended. */
    int idle(int n) {
        int ended = x.run(n);
        register = x.register();
        levelBefore = x.level();
        return ended;
    }

    /** Undisturbed bit times for a listener that locked with its register 0, where it stays. */
    void bareLine(int n) {
        x.run(n);
        levelBefore = x.level();
    }

    private int key() {
        return (register / 256 + register / 1024) % 2;
    }

    private void shiftIn(int bit) {
        register = (2 * register + bit) % 2048;
    }

    private void hitWithMark(int k, int mark) {
        if (mark == 1) {
            levelBefore = levelBefore == 0 ? (k % 2 == 0 ? 1 : -1) : 0;
        }
        if (!x.hit(k, levelBefore)) {
            throw new IllegalStateException("a hit was refused");
        }
    }

    /** A locked listener gets these plain bits: how many frames ended. */
    int plain(String bits) {
        int ended = 0;
        for (int from = 0; from < bits.length(); from += 100) {
            int n = Math.min(100, bits.length() - from);
            for (int k = 1; k <= n; k++) {
                int key = key();
                hitWithMark(k, (bits.charAt(from + k - 1) - '0') ^ key);
                shiftIn(key);
            }
            ended += x.run(n);
        }
        return ended;
    }

    /** A listener that is not locked gets marks: for + one that its key fits, for - one that it does not. */
    void marks(String fits) {
        for (int k = 1; k <= fits.length(); k++) {
            int keyDue = fits.charAt(k - 1) == '+' ? key() : key() ^ 1;
            hitWithMark(k, keyDue ^ 1);
            shiftIn(keyDue);
        }
        x.run(fits.length());
    }
}
