/** Promises 11 to 15: cell, call, level, queued, pair. */
public final class AskedTest {
    public static void main(String[] args) {
        GuardCells x = busyTown();
        cells(x);
        calls(x);
        levels(x);
        queues(x);
        pairs(x);
        chances();
        allPairs();
        Due.close();
    }

    /** Three CELLS: CALL 0 MOVED from 0 to 1, CALL 1 WAITS for 1, CALL 2 was TURNED away, CALL 3 DROPPED. */
    private static GuardCells busyTown() {
        GuardCells x = Due.told("c4 12 3;c1 0 1;c2 0 0;k1;h0;d1;m10;w3;");
        x.offers(0, 50);
        x.offers(0, 50);
        x.offers(2, 50);
        x.offers(2, 12);
        x.offers(2, 12);
        x.hears(0, 40, 95, 0, 0);
        x.hears(0, 30, 95, 0, 0);
        x.hears(1, 40, 99, 0, 0);
        x.hears(2, 0, 99, 20, 0);
        x.hears(3, 0, 0, 0, 0);
        return x;
    }

    private static void cells(GuardCells x) {
        int[][] due = {
            {4, 12, 3, 1, 0, 10, 2, 2, 0, 0, 0, 0},
            {1, 0, 1, 1, 1, 0, 0, 0, 3, 1, 1, 0},
            {2, 0, 0, 1, 0, 10, 3, 2, 0, 0, 0, 1},
        };
        for (int cell = 0; cell < due.length; cell++) {
            for (int what = 0; what < due[cell].length; what++) {
                Due.due("cell(" + cell + ", " + what + ")", x.cell(cell, what), due[cell][what]);
            }
        }
        Due.due("cell(0, -1)", x.cell(0, -1), GuardCells.BAD);
        Due.due("cell(0, 12)", x.cell(0, 12), GuardCells.BAD);
        Due.due("cell(-1, 0)", x.cell(-1, 0), GuardCells.BAD);
        Due.due("cell(3, 0)", x.cell(3, 0), GuardCells.BAD);
        Due.due("cell(4, 0)", x.cell(4, 0), GuardCells.BAD);
    }

    private static void calls(GuardCells x) {
        int[][] due = {
            {1, GuardCells.NONE, 2, 1, 0, -1520, 0},
            {0, 1, 1, 0, 0, 320, GuardCells.NONE},
            {2, GuardCells.NONE, 1, 0, 0, 960, GuardCells.NONE},
        };
        for (int call = 0; call < due.length; call++) {
            for (int what = 0; what < due[call].length; what++) {
                Due.due("call(" + call + ", " + what + ")", x.call(call, what), due[call][what]);
            }
        }
        Due.due("call(0, -1)", x.call(0, -1), GuardCells.NO);
        Due.due("call(0, 7)", x.call(0, 7), GuardCells.NO);
        Due.due("call(3, 0)", x.call(3, 0), GuardCells.NO);
        Due.due("call(-1, 0)", x.call(-1, 0), GuardCells.NO);
        Due.due("call(12, 0)", x.call(12, 0), GuardCells.NO);
    }

    private static void levels(GuardCells x) {
        Due.due("level(0, 0, 0)", x.level(0, 0, 0), 2400);
        Due.due("level(0, 1, 0)", x.level(0, 1, 0), 4560);
        Due.due("level(0, 2, 0)", x.level(0, 2, 0), 0);
        Due.due("level(1, 1, 0)", x.level(1, 1, 0), 3168);
        Due.due("level(1, 1, 1)", x.level(1, 1, 1), 1);
        Due.due("level(1, 0, 1)", x.level(1, 0, 1), 0);
        Due.due("level(2, 1, 1)", x.level(2, 1, 1), 1);
        Due.due("level(3, 0, 0)", x.level(3, 0, 0), GuardCells.BAD);
        Due.due("level(-1, 0, 0)", x.level(-1, 0, 0), GuardCells.BAD);
        Due.due("level(12, 0, 0)", x.level(12, 0, 0), GuardCells.BAD);
        Due.due("level(0, 3, 0)", x.level(0, 3, 0), GuardCells.BAD);
        Due.due("level(0, -1, 0)", x.level(0, -1, 0), GuardCells.BAD);
        Due.due("level(0, 0, 2)", x.level(0, 0, 2), GuardCells.BAD);
        Due.due("level(0, 0, -1)", x.level(0, 0, -1), GuardCells.BAD);
    }

    private static void queues(GuardCells x) {
        Due.due("queued(1, 0)", x.queued(1, 0), 1);
        Due.due("queued(1, 1)", x.queued(1, 1), GuardCells.NONE);
        Due.due("queued(1, most)", x.queued(1, Integer.MAX_VALUE), GuardCells.NONE);
        Due.due("queued(0, 0)", x.queued(0, 0), GuardCells.NONE);
        Due.due("queued(1, -1)", x.queued(1, -1), GuardCells.BAD);
        Due.due("queued(3, 0)", x.queued(3, 0), GuardCells.BAD);
        Due.due("queued(-1, 0)", x.queued(-1, 0), GuardCells.BAD);
    }

    private static void pairs(GuardCells x) {
        Due.due("pair(0, 0)", x.pair(0, 0), 0);
        Due.due("pair(0, 1)", x.pair(0, 1), 1);
        Due.due("pair(0, 2)", x.pair(0, 2), 1);
        Due.due("pair(1, 0)", x.pair(1, 0), GuardCells.NONE);
        Due.due("pair(most, 2)", x.pair(Integer.MAX_VALUE, 2), GuardCells.NONE);
        Due.due("pair(-1, 0)", x.pair(-1, 0), GuardCells.BAD);
        Due.due("pair(0, 3)", x.pair(0, 3), GuardCells.BAD);
        Due.due("pair(0, -1)", x.pair(0, -1), GuardCells.BAD);
        Due.due("pair(1, 3)", x.pair(1, 3), GuardCells.BAD);
    }

    private static void chances() {
        GuardCells x = Due.told("c6 60 0;");
        for (int guard = 59; guard >= 0; guard--) {
            x.guards(0, guard);
            Due.due("CHANCE by " + guard, x.cell(0, 5), Math.min(10, 60 - guard));
        }
        x.offers(0, 5);
        Due.due("CHANCE with 5 FREE", x.cell(0, 5), 10);
        x.guards(0, 42);
        Due.due("CHANCE with 5 FREE by 42", x.cell(0, 5), 8);
        x.guards(0, 60);
        Due.due("CHANCE not below 0", x.cell(0, 5), 0);
    }

    private static void allPairs() {
        GuardCells x = Due.told("c1 0 0;c1 0 0;c1 0 0;c1 0 0;k0;h0;d1;m0;");
        x.offers(0, 50);
        int[] way = {1, 0, 2, 0, 3, 1, 2, 1, 3, 2, 3, 0, 1, 0};
        int[] dueFrom = {0, 1, 0, 2, 0, 3, 1, 2, 1, 3, 2, 3};
        int[] dueTo = {1, 0, 2, 0, 3, 1, 2, 1, 3, 2, 3, 0};
        for (int to : way) {
            Due.due("to " + to, x.hears(0, to == 0 ? 9 : 1, to == 1 ? 9 : 1, to == 2 ? 9 : 1, to == 3 ? 9 : 1), 1);
        }
        Due.due("PAIRS", x.count(11), 12);
        for (int i = 0; i < 12; i++) {
            Due.due("from of " + i, x.pair(i, 0), dueFrom[i]);
            Due.due("to of " + i, x.pair(i, 1), dueTo[i]);
            Due.due("how many of " + i, x.pair(i, 2), i < 2 ? 2 : 1);
        }
        Due.due("no more", x.pair(12, 0), GuardCells.NONE);
        Due.due("MOVED to 0", x.cell(0, 10), 4);
    }
}
