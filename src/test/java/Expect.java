/** Counts the answers that are not as due, and ends the program accordingly. */
final class Expect {
    private int checked = 0;
    private int wrong = 0;
    private String sentence = "";

    /** The words of the document that the checks behind this are about. */
    void about(String words) {
        sentence = "[" + words + "] ";
    }

    void same(String what, long got, long due) {
        same(what, String.valueOf(got), String.valueOf(due));
    }

    void same(String what, String got, String due) {
        checked++;
        if (!got.equals(due)) {
            wrong++;
            System.out.println(sentence + what + ": got " + got + ", due is " + due);
        }
    }

    void yes(String what, boolean got) {
        same(what, got ? 1 : 0, 1);
    }

    void no(String what, boolean got) {
        same(what, got ? 1 : 0, 0);
    }

    void end() {
        System.out.println(checked + " checked, " + wrong + " wrong");
        if (wrong != 0 || checked == 0) {
            System.exit(1);
        }
    }
}
