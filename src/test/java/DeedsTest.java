/** Promises 5 to 10: offers, hears, ends, guards, seeds, undo. */
public final class DeedsTest {
    public static void main(String[] args) {
        offersRefused();
        offersByGuard();
        offersByDraw();
        offersFull();
        lowestCall();
        hearsRefused();
        smooths();
        streaksAndDwell();
        targetOfSeveral();
        streaksEndWithAMove();
        waitsStillAndNoMore();
        turnedAway();
        dropped();
        droppedThoughWaiting();
        moverIsNotDropped();
        returns();
        returnsWhenServed();
        endsServesOneAfterTheOther();
        endsOfOneThatWaits();
        queueByFall();
        fractionsUncut();
        noFallIsBehindAll();
        sameFractions();
        guardsChange();
        seedsAny();
        undoSix();
        undoBringsAllBack();
        undoBringsReturnsBack();
        manyDeeds();
        Due.close();
    }

    private static void offersRefused() {
        GuardCells x = Due.told("c1 0 0;c2 0 0;");
        Due.due("offers(-1, 5)", x.offers(-1, 5), GuardCells.BAD);
        Due.due("offers(2, 5)", x.offers(2, 5), GuardCells.BAD);
        Due.due("offers(0, -1)", x.offers(0, -1), GuardCells.BAD);
        Due.due("offers(0, 101)", x.offers(0, 101), GuardCells.BAD);
        Due.due("nothing OFFERED", x.cell(0, 6), 0);
        Due.due("nothing to undo", x.count(10), 0);
        Due.due("offers(0, 100)", x.offers(0, 100), 0);
        Due.due("offers(1, 0)", x.offers(1, 0), 1);
        Due.due("level(0, 0, 0)", x.level(0, 0, 0), 6400);
        Due.due("level(0, 1, 0)", x.level(0, 1, 0), 0);
        Due.due("level(1, 1, 0)", x.level(1, 1, 0), 0);
        Due.due("offers(0, 100) with none FREE", x.offers(0, 100), GuardCells.NONE);
        Due.due("that is a deed, too", x.count(10), 3);
        Due.due("OFFERED", x.cell(0, 6), 2);
        Due.due("TAKEN", x.cell(0, 7), 1);
    }

    private static void offersByGuard() {
        GuardCells x = Due.told("c3 20 0;");
        Due.due("certain", x.offers(0, 5), 0);
        Due.due("certain takes no DRAW", x.count(7), 0);
        Due.due("not, by GUARD", x.offers(0, 5), GuardCells.NONE);
        Due.due("not, takes no DRAW", x.count(7), 0);
        Due.due("the least CHANCE", x.guards(0, 19), 20);
        Due.due("CHANCE", x.cell(0, 5), 1);
        Due.due("taken by a DRAW of 0", x.offers(0, 5), 1);
        Due.due("a DRAW", x.count(7), 1);
    }

    private static void offersByDraw() {
        // Behind 1 the seed is 69070, its DRAW 1; then 69070 * 69069 + 1 = 4770595831 = 475628535 + 2^32, its DRAW 7257 -> 7.
        GuardCells x = Due.told("c2 19 0;");
        x.seeds(1);
        Due.due("a DRAW of 1 is not less than 1", x.offers(0, 5), GuardCells.NONE);
        Due.due("the SEED", x.count(7), 69070);
        x.guards(0, 13);
        Due.due("a DRAW of 7 is not less than 7", x.offers(0, 5), GuardCells.NONE);
        Due.due("the SEED", x.count(7), 475628535);
        x.seeds(69070);
        x.guards(0, 12);
        Due.due("a DRAW of 7 is less than 8", x.offers(0, 5), 0);
        // -1 * 69069 + 1 is 2^32 - 69068: 65534 by 2 to the 16, 4 is left over by 10.
        GuardCells y = Due.told("c2 16 0;c2 15 0;");
        y.seeds(-1);
        Due.due("a DRAW of 4 is not less than 4", y.offers(0, 5), GuardCells.NONE);
        Due.due("the SEED below 0", y.count(7), -69068);
        y.seeds(-1);
        Due.due("a DRAW of 4 is less than 5", y.offers(1, 5), 0);
    }

    private static void offersFull() {
        GuardCells x = Due.told("c6 0 0;c6 0 0;c6 15 0;");
        for (int i = 0; i < 12; i++) {
            Due.due("offers()", x.offers(i / 6, 9), i);
        }
        Due.due("FULL", x.offers(2, 9), GuardCells.FULL);
        Due.due("FULL, where none is FREE", x.offers(0, 9), GuardCells.FULL);
        Due.due("BAD ahead of FULL", x.offers(3, 9), GuardCells.BAD);
        Due.due("not OFFERED", x.cell(2, 6), 0);
        Due.due("6 deeds", x.count(10), 6);
        Due.due("undo()", x.undo(), 5);
        Due.due("the last TAKEN is gone", x.count(1), 11);
    }

    private static void lowestCall() {
        GuardCells x = Due.told("c6 0 0;c1 0 0;h0;d1;k0;");
        x.offers(0, 50);
        x.offers(0, 50);
        x.offers(0, 50);
        x.hears(1, 20, 60, 0, 0);
        x.hears(1, 60, 20, 0, 0);
        x.offers(1, 50);
        x.hears(1, 40, 60, 0, 0);
        Due.due("a RETURN", x.call(1, 4), 1);
        Due.due("a FALL", x.call(1, 5), 1280);
        Due.due("a STREAK", x.level(1, 1, 1), 1);
        x.ends(3);
        x.ends(1);
        Due.due("the lowest", x.offers(0, 7), 1);
        int[] fresh = {0, GuardCells.NONE, 0, 0, 0, 0, GuardCells.NONE};
        for (int what = 0; what < fresh.length; what++) {
            Due.due("fresh: call(1, " + what + ")", x.call(1, what), fresh[what]);
        }
        Due.due("fresh: level(1, 0, 0)", x.level(1, 0, 0), 448);
        Due.due("fresh: level(1, 1, 0)", x.level(1, 1, 0), 0);
        Due.due("fresh: level(1, 1, 1)", x.level(1, 1, 1), 0);
        Due.due("the next", x.offers(0, 7), 3);
    }

    private static void hearsRefused() {
        GuardCells x = Due.told("c1 0 0;c1 0 0;");
        x.offers(0, 50);
        Due.due("no such CALL", x.hears(1, 0, 0, 0, 0), GuardCells.BAD);
        Due.due("CALL -1", x.hears(-1, 0, 0, 0, 0), GuardCells.BAD);
        Due.due("CALL 12", x.hears(12, 0, 0, 0, 0), GuardCells.BAD);
        Due.due("-1", x.hears(0, -1, 0, 0, 0), GuardCells.BAD);
        Due.due("101", x.hears(0, 0, 101, 0, 0), GuardCells.BAD);
        Due.due("no CELL 2", x.hears(0, 50, 0, 1, 0), GuardCells.BAD);
        Due.due("no CELL 3", x.hears(0, 50, 0, 0, 1), GuardCells.BAD);
        Due.due("not HEARD", x.call(0, 2), 0);
        Due.due("no deed", x.count(10), 1);
        Due.due("0", x.hears(0, 100, 0, 0, 0), 0);
        Due.due("HEARD", x.call(0, 2), 1);
        GuardCells y = Due.told("c1 0 0;c1 0 0;c1 0 0;c1 0 0;");
        y.offers(3, 50);
        Due.due("four CELLS", y.hears(0, 1, 2, 3, 100), 0);
        Due.due("101 by the fourth", y.hears(0, 1, 2, 3, 101), GuardCells.BAD);
    }

    private static void smooths() {
        GuardCells x = Due.told("c1 0 0;c1 0 0;k3;m0;");
        x.offers(0, 50);
        x.hears(0, 49, 1, 0, 0);
        Due.due("(3200 * 7 + 3136) / 8", x.level(0, 0, 0), 3192);
        Due.due("64 / 8", x.level(0, 1, 0), 8);
        Due.due("FALL", x.call(0, 5), 8);
        x.hears(0, 100, 0, 0, 0);
        Due.due("(3192 * 7 + 6400) / 8", x.level(0, 0, 0), 3593);
        Due.due("FALL below 0", x.call(0, 5), -401);
        Due.due("7", x.level(0, 1, 0), 7);
        x.hears(0, 100, 0, 0, 0);
        Due.due("49 / 8 cut", x.level(0, 1, 0), 6);
        GuardCells y = Due.told("c1 0 0;c1 0 0;k0;m0;");
        y.offers(0, 50);
        y.hears(0, 20, 3, 0, 0);
        Due.due("FILTER 0", y.level(0, 0, 0), 1280);
        Due.due("FILTER 0, the other", y.level(0, 1, 0), 192);
        GuardCells z = Due.told("c1 0 0;c1 0 0;k2;m0;");
        z.offers(0, 50);
        z.hears(0, 20, 3, 0, 0);
        Due.due("FILTER 2", z.level(0, 0, 0), 2720);
        Due.due("FILTER 2, the other", z.level(0, 1, 0), 48);
    }

    private static void streaksAndDwell() {
        GuardCells x = Due.told("c2 0 0;c2 0 0;k0;h4;d3;");
        x.offers(0, 50);
        Due.due("better by 4", x.hears(0, 50, 54, 0, 0), 0);
        Due.due("a STREAK", x.level(0, 1, 1), 1);
        Due.due("better by 3", x.hears(0, 50, 53, 0, 0), 0);
        Due.due("no STREAK", x.level(0, 1, 1), 0);
        x.hears(0, 50, 54, 0, 0);
        Due.due("a second time", x.hears(0, 50, 54, 0, 0), 0);
        Due.due("STREAK 2", x.level(0, 1, 1), 2);
        Due.due("a third time", x.hears(0, 45, 54, 0, 0), 1);
        Due.due("OWN CELL", x.call(0, 0), 1);
        Due.due("STREAK 0 behind a MOVE", x.level(0, 1, 1), 0);
        Due.due("LEVEL stays", x.level(0, 1, 0), 54 * 64);
        Due.due("FALL 0 behind a MOVE", x.call(0, 5), 0);
        Due.due("OWN STREAK", x.level(0, 0, 1), 0);
        x.hears(0, 10, 90, 0, 0);
        Due.due("OWN STREAK stays 0", x.level(0, 1, 1), 0);
    }

    private static void targetOfSeveral() {
        GuardCells x = Due.told("c2 0 0;c2 0 0;c2 0 0;c2 0 0;k0;h0;d1;");
        x.offers(2, 50);
        x.hears(0, 70, 80, 40, 80);
        Due.due("the greatest, the lowest", x.call(0, 0), 1);
        x.hears(0, 70, 20, 70, 71);
        Due.due("the greatest", x.call(0, 0), 3);
        GuardCells y = Due.told("c2 0 0;c2 0 0;c2 0 0;k0;h0;d2;");
        y.offers(0, 50);
        y.hears(0, 50, 60, 40, 0);
        y.hears(0, 50, 60, 99, 0);
        Due.due("only those whose STREAK is enough", y.call(0, 0), 1);
    }

    private static void streaksEndWithAMove() {
        GuardCells x = Due.told("c1 0 0;c1 0 0;c1 0 0;c1 0 0;k0;h0;d2;");
        x.offers(1, 50);
        x.hears(0, 60, 40, 70, 60);
        Due.due("STREAK by 0", x.level(0, 0, 1), 1);
        Due.due("MOVES", x.hears(0, 60, 40, 70, 60), 1);
        Due.due("to 2", x.call(0, 0), 2);
        for (int cell = 0; cell < 4; cell++) {
            Due.due("STREAK by " + cell, x.level(0, cell, 1), 0);
        }
    }

    private static void waitsStillAndNoMore() {
        GuardCells x = Due.told("c2 0 0;c1 0 1;c1 0 1;k0;h0;d1;");
        x.offers(0, 50);
        x.offers(1, 50);
        x.offers(2, 50);
        Due.due("WAITS", x.hears(0, 40, 60, 0, 0), 2);
        Due.due("for 1", x.call(0, 1), 1);
        Due.due("WAITS still", x.hears(0, 40, 60, 0, 0), 2);
        Due.due("ASKED once", x.cell(1, 8), 1);
        Due.due("WAITS elsewhere", x.hears(0, 40, 60, 70, 0), 2);
        Due.due("for 2", x.call(0, 1), 2);
        Due.due("not for 1", x.cell(1, 4), 0);
        Due.due("for 2, one", x.cell(2, 4), 1);
        Due.due("no TARGET", x.hears(0, 40, 10, 10, 0), 0);
        Due.due("does not WAIT", x.call(0, 1), GuardCells.NONE);
        Due.due("nobody for 2", x.cell(2, 4), 0);
        Due.due("WAITS", x.hears(0, 40, 60, 0, 0), 2);
        Due.due("ASKED again", x.cell(1, 8), 2);
        x.ends(2);
        Due.due("WAITS for 1, MOVES to 2", x.hears(0, 40, 60, 70, 0), 1);
        Due.due("nobody for 1", x.cell(1, 4), 0);
    }

    private static void turnedAway() {
        GuardCells x = Due.told("c3 0 0;c1 0 1;c1 0 0;k0;h0;d1;");
        x.offers(0, 50);
        x.offers(0, 50);
        x.offers(1, 50);
        x.offers(2, 50);
        Due.due("WAITS", x.hears(0, 40, 60, 0, 0), 2);
        Due.due("TURNED away", x.hears(1, 40, 60, 0, 0), 3);
        Due.due("no PLACES", x.hears(0, 40, 60, 70, 0), 3);
        Due.due("it WAITS no more", x.call(0, 1), GuardCells.NONE);
        Due.due("ASKED 1", x.cell(1, 8), 2);
        Due.due("TURNED at 1", x.cell(1, 9), 1);
        Due.due("ASKED 2", x.cell(2, 8), 1);
        Due.due("TURNED at 2", x.cell(2, 9), 1);
        Due.due("a STREAK goes on", x.level(1, 1, 1), 1);
        Due.due("asks again", x.hears(1, 40, 60, 0, 0), 2);
        Due.due("STREAK 2", x.level(1, 1, 1), 2);
    }

    private static void dropped() {
        GuardCells x = Due.told("c1 0 1;c1 0 1;k0;h5;d1;m30;");
        x.offers(0, 10);
        Due.due("below NEED only when HEARD", x.count(1), 1);
        Due.due("at NEED", x.hears(0, 30, 0, 0, 0), 0);
        x.offers(1, 50);
        Due.due("WAITS", x.hears(1, 60, 40, 0, 0), 2);
        Due.due("below NEED", x.hears(0, 29, 0, 0, 0), 4);
        Due.due("gone", x.call(0, 0), GuardCells.NO);
        Due.due("DROPPED in 0", x.cell(0, 11), 1);
        Due.due("its CELL is FREED", x.call(1, 0), 0);
        Due.due("MOVED to 0", x.cell(0, 10), 1);
        Due.due("not ASKED again", x.cell(0, 8), 1);
        GuardCells y = Due.told("c1 0 1;m0;k0;");
        y.offers(0, 10);
        Due.due("NEED 0", y.hears(0, 0, 0, 0, 0), 0);
    }

    private static void droppedThoughWaiting() {
        GuardCells x = Due.told("c2 0 0;c1 0 1;k0;h0;d1;m30;");
        x.offers(0, 50);
        x.offers(0, 50);
        x.offers(1, 50);
        Due.due("would WAIT, is DROPPED", x.hears(0, 29, 60, 0, 0), 4);
        Due.due("ASKED", x.cell(1, 8), 1);
        Due.due("nobody WAITS", x.cell(1, 4), 0);
        Due.due("queued", x.queued(1, 0), GuardCells.NONE);
        Due.due("WAITS", x.hears(1, 40, 60, 0, 0), 2);
        x.offers(0, 50);
        Due.due("TURNED and DROPPED", x.hears(0, 29, 60, 0, 0), 4);
        Due.due("TURNED", x.cell(1, 9), 1);
        Due.due("WAITS still and is DROPPED", x.hears(1, 29, 60, 0, 0), 4);
        Due.due("DROPPED in 0", x.cell(0, 11), 3);
        Due.due("nobody is served", x.ends(2), 0);
    }

    private static void moverIsNotDropped() {
        GuardCells x = Due.told("c1 0 0;c1 10 0;k0;h0;d1;m30;");
        x.offers(0, 50);
        Due.due("MOVES though GUARD is all, and below NEED by both", x.hears(0, 10, 20, 0, 0), 1);
        Due.due("OWN CELL", x.call(0, 0), 1);
        Due.due("not DROPPED", x.cell(0, 11) + x.cell(1, 11), 0);
        Due.due("DROPPED next", x.hears(0, 0, 20, 0, 0), 4);
        Due.due("DROPPED in 1", x.cell(1, 11), 1);
    }

    private static void returns() {
        GuardCells x = Due.told("c1 0 0;c1 0 0;c1 0 0;k0;h5;d1;w2;");
        x.offers(0, 50);
        x.hears(0, 40, 60, 0, 0);
        Due.due("from where", x.call(0, 6), 0);
        x.hears(0, 40, 60, 0, 0);
        x.hears(0, 60, 40, 0, 0);
        Due.due("HEARD twice since", x.call(0, 4), 1);
        x.hears(0, 60, 40, 0, 0);
        x.hears(0, 60, 40, 0, 0);
        x.hears(0, 40, 60, 0, 0);
        Due.due("HEARD three times since", x.call(0, 4), 1);
        Due.due("MOVED", x.call(0, 3), 3);
        x.hears(0, 10, 40, 60, 0);
        Due.due("elsewhere", x.call(0, 4), 1);
        x.hears(0, 60, 40, 10, 0);
        Due.due("not where it MOVED from last", x.call(0, 4), 1);
        Due.due("from 2", x.call(0, 6), 2);
        x.hears(0, 10, 40, 60, 0);
        Due.due("where it MOVED from last", x.call(0, 4), 2);
        Due.due("MOVED", x.call(0, 3), 6);
        Due.due("HEARD", x.call(0, 2), 9);
    }

    private static void returnsWhenServed() {
        GuardCells x = Due.told("c1 0 1;c1 0 1;k0;h5;d1;w1;");
        x.offers(0, 50);
        x.hears(0, 40, 60, 0, 0);
        x.offers(0, 50);
        Due.due("WAITS, HEARD once", x.hears(0, 60, 40, 0, 0), 2);
        Due.due("ends(1)", x.ends(1), 1);
        Due.due("a RETURN", x.call(0, 4), 1);
        x.offers(1, 50);
        x.hears(0, 40, 60, 0, 0);
        Due.due("WAITS, HEARD twice", x.hears(0, 40, 60, 0, 0), 2);
        Due.due("ends(1)", x.ends(1), 1);
        Due.due("no RETURN", x.call(0, 4), 1);
    }

    private static void endsServesOneAfterTheOther() {
        GuardCells x = Due.told("c1 0 1;c1 0 1;c1 0 1;c1 0 1;k0;h0;d1;");
        for (int cell = 0; cell < 4; cell++) {
            x.offers(cell, 50);
        }
        x.hears(1, 60, 40, 0, 0);
        x.hears(2, 0, 60, 40, 0);
        x.hears(3, 0, 0, 60, 40);
        Due.due("ends(-1)", x.ends(-1), GuardCells.BAD);
        Due.due("ends(12)", x.ends(12), GuardCells.BAD);
        Due.due("ends(4)", x.ends(4), GuardCells.BAD);
        Due.due("ends(0)", x.ends(0), 3);
        int[][] pairs = {{1, 0, 1}, {2, 1, 1}, {3, 2, 1}};
        for (int i = 0; i < pairs.length; i++) {
            for (int what = 0; what < 3; what++) {
                Due.due("pair(" + i + ", " + what + ")", x.pair(i, what), pairs[i][what]);
            }
        }
        Due.due("FREE is 3", x.cell(3, 3), 0);
        Due.due("CALL 3 is in 2", x.call(3, 0), 2);
        Due.due("nobody WAITS", x.call(3, 1), GuardCells.NONE);
        Due.due("ends(0)", x.ends(0), GuardCells.BAD);
        Due.due("undo()", x.undo(), 5);
        Due.due("CALL 3 WAITS for 2", x.call(3, 1), 2);
        Due.due("no PAIRS", x.count(11), 0);
    }

    private static void endsOfOneThatWaits() {
        GuardCells x = Due.told("c2 0 0;c1 0 2;k0;h0;d1;");
        x.offers(0, 50);
        x.offers(0, 50);
        x.offers(1, 50);
        x.hears(0, 40, 60, 0, 0);
        x.hears(1, 45, 60, 0, 0);
        Due.due("ends(0)", x.ends(0), 0);
        Due.due("one WAITS", x.cell(1, 4), 1);
        Due.due("queued", x.queued(1, 0), 1);
        Due.due("ends(2)", x.ends(2), 1);
        Due.due("CALL 1 is in 1", x.call(1, 0), 1);
    }

    private static void queueByFall() {
        GuardCells x = Due.told("c6 0 0;c1 0 4;k0;h0;d1;m10;");
        for (int i = 0; i < 5; i++) {
            x.offers(0, 50);
        }
        x.offers(1, 99);
        x.hears(0, 50, 60, 0, 0);
        x.hears(1, 30, 60, 0, 0);
        x.hears(2, 40, 60, 0, 0);
        x.hears(3, 51, 60, 0, 0);
        order(x, 1, 2, 0, 3);
        x.hears(2, 30, 60, 0, 0);
        // CALL 1: 20 by 20; CALL 2: 20 by 10.
        order(x, 1, 2, 0, 3);
        x.hears(2, 29, 60, 0, 0);
        // CALL 2: 19 by 1.
        order(x, 1, 2, 0, 3);
        x.hears(2, 19, 60, 0, 0);
        // CALL 2: 9 by 10.
        order(x, 2, 1, 0, 3);
        x.hears(1, 30, 60, 0, 0);
        // CALL 1 falls no more: it WAITED longer than 3, shorter than 0.
        order(x, 2, 0, 1, 3);
        Due.due("TURNED", x.hears(4, 20, 60, 0, 0), 3);
        Due.due("ends(5)", x.ends(5), 1);
        Due.due("the first", x.call(2, 0), 1);
        order(x, 0, 1, 3, GuardCells.NONE);
    }

    private static void fractionsUncut() {
        GuardCells x = Due.told("c6 0 0;c1 0 4;k0;h0;d1;m10;");
        x.offers(0, 45);
        x.offers(0, 41);
        x.offers(0, 50);
        x.offers(1, 99);
        x.hears(0, 35, 60, 0, 0);
        x.hears(1, 31, 60, 0, 0);
        // 25 by 10 has WAITED longer, 21 by 10 is less: cut they would be the same.
        order(x, 1, 0, GuardCells.NONE, GuardCells.NONE);
        x.hears(1, 21, 60, 0, 0);
        x.hears(0, 31, 60, 0, 0);
        x.hears(0, 21, 60, 0, 0);
        x.hears(2, 30, 60, 0, 0);
        // 11 by 10 twice, and 20 by 20.
        order(x, 2, 0, 1, GuardCells.NONE);
    }

    /** Where nothing is left above NEED, crosswise products alone would take a FALL of 0 for the same. */
    private static void noFallIsBehindAll() {
        GuardCells x = Due.told("c6 0 0;c1 0 4;k0;h0;d1;m10;");
        x.offers(0, 10);
        x.offers(0, 50);
        x.offers(0, 10);
        x.offers(1, 99);
        x.hears(0, 10, 60, 0, 0);
        x.hears(1, 40, 60, 0, 0);
        x.hears(2, 10, 60, 0, 0);
        order(x, 1, 0, 2, GuardCells.NONE);
        x.hears(1, 10, 60, 0, 0);
        order(x, 1, 0, 2, GuardCells.NONE);
        x.hears(0, 11, 60, 0, 0);
        x.hears(2, 11, 60, 0, 0);
        x.hears(2, 10, 60, 0, 0);
        x.hears(1, 10, 60, 0, 0);
        order(x, 2, 0, 1, GuardCells.NONE);
    }

    private static void sameFractions() {
        GuardCells x = Due.told("c6 0 0;c1 0 4;k0;h0;d1;m10;");
        x.offers(0, 50);
        x.offers(0, 40);
        x.offers(1, 99);
        x.hears(1, 30, 60, 0, 0);
        x.hears(0, 43, 60, 0, 0);
        x.hears(0, 24, 60, 0, 0);
        x.hears(0, 24, 60, 0, 0);
        x.hears(0, 30, 60, 0, 0);
        // 20 by 10, and a FALL below 0.
        order(x, 1, 0, GuardCells.NONE, GuardCells.NONE);
        x.hears(0, 22, 60, 0, 0);
        x.hears(0, 18, 60, 0, 0);
        // 20 by 10 has WAITED longer than 8 by 4.
        order(x, 1, 0, GuardCells.NONE, GuardCells.NONE);
        x.hears(1, 30, 20, 0, 0);
        Due.due("WAITS anew", x.hears(1, 25, 60, 0, 0), 2);
        x.hears(1, 20, 60, 0, 0);
        // 10 by 5 has WAITED there anew, and less long now than 8 by 4.
        order(x, 0, 1, GuardCells.NONE, GuardCells.NONE);
    }

    private static void order(GuardCells x, int first, int second, int third, int fourth) {
        int[] due = {first, second, third, fourth};
        for (int i = 0; i < due.length; i++) {
            Due.due("queued(1, " + i + ")", x.queued(1, i), due[i]);
        }
        Due.due("queued(1, 4)", x.queued(1, 4), GuardCells.NONE);
    }

    private static void guardsChange() {
        GuardCells x = Due.told("c2 5 0;");
        Due.due("guards(0, -1)", x.guards(0, -1), GuardCells.BAD);
        Due.due("guards(0, 21)", x.guards(0, 21), GuardCells.BAD);
        Due.due("guards(1, 5)", x.guards(1, 5), GuardCells.BAD);
        Due.due("guards(-1, 5)", x.guards(-1, 5), GuardCells.BAD);
        Due.due("guards(0, 5)", x.guards(0, 5), GuardCells.STATE);
        Due.due("no deed", x.count(10), 0);
        Due.due("guards(0, 20)", x.guards(0, 20), 5);
        Due.due("guards(0, 0)", x.guards(0, 0), 20);
        Due.due("GUARD", x.cell(0, 1), 0);
        Due.due("undo()", x.undo(), 1);
        Due.due("GUARD", x.cell(0, 1), 20);
        Due.due("undo()", x.undo(), 0);
        Due.due("GUARD", x.cell(0, 1), 5);
    }

    private static void seedsAny() {
        GuardCells x = new GuardCells();
        Due.due("seeds(least)", x.seeds(Integer.MIN_VALUE), 0);
        Due.due("seeds(most)", x.seeds(Integer.MAX_VALUE), Integer.MIN_VALUE);
        Due.due("count(7)", x.count(7), Integer.MAX_VALUE);
        Due.due("no deed", x.count(10), 0);
        GuardCells y = Due.told("c1 5 0;");
        y.seeds(7);
        y.offers(0, 5);
        y.seeds(8);
        Due.due("undo()", y.undo(), 0);
        Due.due("the SEED as ahead of the deed", y.count(7), 7);
    }

    private static void undoSix() {
        GuardCells x = Due.told("c6 0 0;c6 0 0;");
        Due.due("undo()", x.undo(), GuardCells.STATE);
        for (int guard = 1; guard <= 9; guard++) {
            x.guards(0, guard);
        }
        Due.due("count(10)", x.count(10), 6);
        for (int left = 5; left >= 3; left--) {
            Due.due("undo()", x.undo(), left);
        }
        Due.due("GUARD", x.cell(0, 1), 6);
        x.guards(0, 30);
        x.guards(0, 40);
        Due.due("count(10)", x.count(10), 5);
        int[] was = {30, 6, 5, 4, 3};
        for (int i = 0; i < was.length; i++) {
            Due.due("undo()", x.undo(), 4 - i);
            Due.due("GUARD", x.cell(0, 1), was[i]);
        }
        Due.due("undo()", x.undo(), GuardCells.STATE);
        Due.due("GUARD", x.cell(0, 1), 3);
    }

    private static void undoBringsReturnsBack() {
        GuardCells x = Due.told("c1 0 0;c1 0 0;k0;h5;d1;w1;");
        x.offers(0, 50);
        x.hears(0, 40, 60, 0, 0);
        x.hears(0, 40, 60, 0, 0);
        x.undo();
        x.hears(0, 60, 40, 0, 0);
        Due.due("HEARD once since, what is UNDONE does not count", x.call(0, 4), 1);
        x.undo();
        x.hears(0, 40, 60, 0, 0);
        x.hears(0, 60, 40, 0, 0);
        Due.due("HEARD twice since, the MOVE that is UNDONE does not count", x.call(0, 4), 0);
    }

    private static void manyDeeds() {
        GuardCells x = Due.told("c1 0 1;c1 0 1;k0;h5;d1;");
        for (int i = 0; i < 30; i++) {
            Due.due("offers(0, 50)", x.offers(0, 50), 0);
            Due.due("offers(1, 50)", x.offers(1, 50), 1);
            Due.due("hears()", x.hears(1, 60, 40, 0, 0), 2);
            Due.due("ends(0)", x.ends(0), 1);
            Due.due("hears()", x.hears(1, 0, 0, 0, 0), 4);
        }
        GuardCells y = Due.told("c1 0 1;c1 0 1;c1 0 1;k0;h5;d1;");
        y.offers(1, 50);
        y.offers(2, 50);
        y.hears(1, 0, 60, 40, 0);
        for (int i = 0; i < 30; i++) {
            Due.due("offers(0, 50)", y.offers(0, 50), 2);
            Due.due("ends(2)", y.ends(2), 0);
        }
        Due.due("one is served behind many that ended", y.ends(0), 1);
        Due.due("offers(2, 50)", y.offers(2, 50), 0);
        y.hears(0, 0, 60, 40, 0);
        for (int i = 0; i < 30; i++) {
            Due.due("offers(0, 50)", y.offers(0, 50), 2);
            Due.due("hears(2, ..)", y.hears(2, 0, 0, 0, 0), 4);
        }
        y.hears(1, 0, 0, 0, 0);
        Due.due("one is served behind many that are DROPPED", y.call(0, 0), 1);
    }

    private static GuardCells waitingTown() {
        GuardCells x = Due.told("c2 5 0;c1 0 2;k1;h0;d1;m10;");
        x.offers(0, 50);
        x.offers(1, 50);
        x.offers(0, 50);
        x.sees(1, 1);
        x.type('c');
        x.hears(0, 40, 90, 0, 0);
        return x;
    }

    private static void undoBringsAllBack() {
        String ahead = Seen.allOf(waitingTown());
        GuardCells x = waitingTown();
        x.hears(2, 20, 90, 0, 0);
        Due.due("undo() of hears()", x.undo(), 4);
        Seen.same("hears() undone", Seen.allOf(x), ahead);
        GuardCells y = waitingTown();
        y.ends(1);
        Due.due("undo() of ends()", y.undo(), 4);
        Seen.same("ends() undone", Seen.allOf(y), ahead);
        GuardCells z = waitingTown();
        z.offers(0, 20);
        Due.due("undo() of offers()", z.undo(), 4);
        Seen.same("offers() undone", Seen.allOf(z), ahead);
        z.sees(2, 0);
        z.type('1');
        z.guards(0, 0);
        z.undo();
        Due.due("SEEN is not undone", z.count(8), 2);
        Due.due("THE TEXT is not undone", z.count(9), 2);
    }
}
