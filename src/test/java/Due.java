/** Compares answers with what is due, and counts. */
final class Due {
    private static int right;
    private static int wrong;
    private static String heading = "";

    private Due() {
    }

    /** What the next answers belong to; it stands ahead of each that is wrong. */
    static void under(String title) {
        heading = title.isEmpty() ? "" : title + ": ";
    }

    static void due(String call, long got, long want) {
        if (got == want) {
            right++;
            return;
        }
        wrong++;
        System.out.println(heading + call + " answered " + got + ", due is " + want);
    }

    /** What must be so. */
    static void holds(String what, boolean so) {
        if (so) {
            right++;
            return;
        }
        wrong++;
        System.out.println(heading + what + " does not hold");
    }

    /** Types a text and reads it: what tells() answers. */
    static int tell(GuardCells x, String text) {
        type(x, text);
        return x.tells();
    }

    static void type(GuardCells x, String text) {
        for (int i = 0; i < text.length(); i++) {
            x.type(text.charAt(i));
        }
    }

    /** A new object whose text was read. */
    static GuardCells told(String text) {
        GuardCells x = new GuardCells();
        int items = tell(x, text);
        if (items < 0) {
            wrong++;
            System.out.println(heading + "the text is at fault: " + text + ", tells() answered " + items);
        }
        return x;
    }

    static void close() {
        System.out.println(right + " right, " + wrong + " wrong");
        if (wrong != 0) {
            System.exit(1);
        }
    }
}
