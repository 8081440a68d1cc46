/** All that can be asked of section 2, as one text, so that two moments can be compared. */
final class Seen {
    private static final int UNDONE = 10;

    private Seen() {
    }

    static String allOf(GuardCells x) {
        return "count 10 = " + x.count(UNDONE) + "\n" + allButUndone(x);
    }

    /** All but how many may be UNDONE. */
    static String allButUndone(GuardCells x) {
        StringBuilder all = new StringBuilder();
        for (int what = 0; what <= 11; what++) {
            if (what != UNDONE) {
                note(all, "count " + what, x.count(what));
            }
        }
        for (int cell = 0; cell < 4; cell++) {
            for (int what = 0; what <= 11; what++) {
                note(all, "cell " + cell + " " + what, x.cell(cell, what));
            }
            for (int i = 0; i <= 4; i++) {
                note(all, "queued " + cell + " " + i, x.queued(cell, i));
            }
        }
        for (int call = 0; call < 12; call++) {
            for (int what = 0; what <= 6; what++) {
                note(all, "call " + call + " " + what, x.call(call, what));
            }
            for (int cell = 0; cell < 4; cell++) {
                note(all, "level " + call + " " + cell, x.level(call, cell, 0));
                note(all, "streak " + call + " " + cell, x.level(call, cell, 1));
            }
        }
        for (int i = 0; i <= 12; i++) {
            for (int what = 0; what < 3; what++) {
                note(all, "pair " + i + " " + what, x.pair(i, what));
            }
        }
        return all.toString();
    }

    private static void note(StringBuilder all, String what, int answer) {
        all.append(what).append(" = ").append(answer).append('\n');
    }

    /** Two such texts, line by line. */
    static void same(String what, String got, String want) {
        String[] gotLines = got.split("\n");
        String[] wantLines = want.split("\n");
        Due.due(what + ": how many answers", gotLines.length, wantLines.length);
        for (int i = 0; i < gotLines.length && i < wantLines.length; i++) {
            if (!gotLines[i].equals(wantLines[i])) {
                Due.holds(what + ": " + wantLines[i] + " (it is " + gotLines[i] + ")", false);
            }
        }
    }
}
