/** Compares answers with what is due, and counts. */
final class Due {
    private static int right;
    private static int wrong;

    private Due() {
    }

    static void due(String call, long got, long want) {
        if (got == want) {
            right++;
            return;
        }
        wrong++;
        System.out.println(call + " answered " + got + ", due is " + want);
    }

    /** Types a text and reads it: what tells() answers. */
    static int tell(GuardCells x, String text) {
        for (int i = 0; i < text.length(); i++) {
            x.type(text.charAt(i));
        }
        return x.tells();
    }

    /** A new object whose text was read. */
    static GuardCells told(String text) {
        GuardCells x = new GuardCells();
        if (tell(x, text) < 0) {
            wrong++;
            System.out.println("the text is at fault: " + text);
        }
        return x;
    }

    static void close() {
        System.out.println(right + " right, " + wrong + " wrong");
        if (wrong != 0) {
            System.exit(1);
        }
    }
}
