/** Promises 1 to 4: a new object, type, clear, tells. */
public final class TextTest {
    public static void main(String[] args) {
        newObject();
        types();
        clears();
        tellsAll();
        tellsAnew();
        faultsOfOrder();
        faultsOfNumbers();
        faultsOfLetters();
        endsTooEarly();
        faultChangesNothing();
        Due.close();
    }

    private static void newObject() {
        GuardCells x = new GuardCells();
        int[] first = {0, 0, 3, 2, 1, 10, 3, 0, 0, 0, 0, 0};
        for (int what = 0; what < first.length; what++) {
            Due.due("new: count(" + what + ")", x.count(what), first[what]);
        }
        Due.due("new: cell(0, 0)", x.cell(0, 0), GuardCells.BAD);
        Due.due("new: undo()", x.undo(), GuardCells.STATE);
        Due.due("new: back(0)", x.back(0), GuardCells.STATE);
        Due.due("new: clear()", x.clear(), 0);
        Due.due("new: forget()", x.forget(), 0);
        Due.due("new: pair(0, 0)", x.pair(0, 0), GuardCells.NONE);
    }

    private static void types() {
        GuardCells x = new GuardCells();
        Due.due("type(-1)", x.type(-1), GuardCells.BAD);
        Due.due("type(256)", x.type(256), GuardCells.BAD);
        Due.due("type(0)", x.type(0), 1);
        Due.due("type(255)", x.type(255), 2);
        for (int i = 3; i <= 120; i++) {
            Due.due("type(32)", x.type(32), i);
        }
        Due.due("type(32) with 120", x.type(32), GuardCells.FULL);
        Due.due("type(256) with 120", x.type(256), GuardCells.BAD);
        Due.due("count(9)", x.count(9), 120);
    }

    private static void clears() {
        GuardCells x = new GuardCells();
        x.type('q');
        x.type('q');
        Due.due("clear()", x.clear(), 2);
        Due.due("clear() again", x.clear(), 0);
        Due.due("tells() of what is left", x.tells(), 0);
    }

    private static void tellsAll() {
        GuardCells x = new GuardCells();
        Due.due("tells()", Due.tell(x, "  c 6 60 4;c1 0 0 ; w9;c3 7 2;m60;k3;d5;h20;c2 20 1 ;  "), 9);
        int[] numbers = {4, 0, 20, 5, 3, 60, 9, 0, 0, 0, 0, 0};
        for (int what = 0; what < numbers.length; what++) {
            Due.due("count(" + what + ")", x.count(what), numbers[what]);
        }
        int[][] cells = {{6, 60, 4}, {1, 0, 0}, {3, 7, 2}, {2, 20, 1}};
        for (int cell = 0; cell < cells.length; cell++) {
            for (int what = 0; what < 3; what++) {
                Due.due("cell(" + cell + ", " + what + ")", x.cell(cell, what), cells[cell][what]);
            }
        }
        Due.due("least numbers", Due.tell(x, "h0;d1;k0;m0;w1;"), 5);
        int[] least = {0, 1, 0, 0, 1};
        for (int i = 0; i < least.length; i++) {
            Due.due("count(" + (i + 2) + ")", x.count(i + 2), least[i]);
        }
        Due.due("blanks alone", Due.tell(x, "   "), 0);
        Due.due("what is not told is as at first", x.count(2), 3);
    }

    private static void tellsAnew() {
        GuardCells x = Due.told("c2 5 1;c1 0 1;h0;d1;k0;");
        x.seeds(99);
        x.offers(0, 50);
        x.hears(0, 10, 60, 0, 0);
        x.keep(0);
        x.guards(0, 3);
        x.sees(1, 1);
        Due.due("tells()", Due.tell(x, "c2 5 1;"), 1);
        int[] anew = {1, 0, 3, 2, 1, 10, 3, 0, 0, 0, 0, 0};
        for (int what = 0; what < anew.length; what++) {
            Due.due("anew: count(" + what + ")", x.count(what), anew[what]);
        }
        int[] cell = {2, 5, 1, 0, 0, 10, 0, 0, 0, 0, 0, 0};
        for (int what = 0; what < cell.length; what++) {
            Due.due("anew: cell(0, " + what + ")", x.cell(0, what), cell[what]);
        }
        Due.due("anew: call(0, 0)", x.call(0, 0), GuardCells.NO);
        Due.due("anew: pair(0, 0)", x.pair(0, 0), GuardCells.NONE);
        Due.due("anew: undo()", x.undo(), GuardCells.STATE);
        Due.due("anew: back(0)", x.back(0), GuardCells.STATE);
    }

    private static void fault(String text, int place) {
        GuardCells x = new GuardCells();
        Due.due("tells() of '" + text + "'", Due.tell(x, text), -10 - place);
        Due.due("letters of '" + text + "' stay", x.count(9), text.length());
        Due.due("no cells of '" + text + "'", x.count(0), 0);
    }

    private static void faultsOfOrder() {
        fault(";", 0);
        fault(" 5;", 1);
        fault("c;", 1);
        fault("c c", 2);
        fault("c1;", 2);
        fault("c1 0;", 4);
        fault("c1 0 0 0;", 7);
        fault("c1 0 0 c", 7);
        fault("h3 3;", 3);
        fault("h;", 1);
        fault("hh", 1);
        fault("h3;;", 3);
        fault("c1 0 0;c1 0 0;c1 0 0;c1 0 0;c1 0 0;", 28);
        fault("h3;d1; h3;", 7);
        fault("d1;d1;", 3);
        fault("k1;k1;", 3);
        fault("m1;m1;", 3);
        fault("w1;w1;", 3);
    }

    private static void faultsOfNumbers() {
        fault("c0 0 0;", 1);
        fault("c7 0 0;", 1);
        fault("c1 11 0;", 3);
        fault("c6 61 0;", 3);
        fault("c6 60 5;", 6);
        fault("h21;", 1);
        fault("d0;", 1);
        fault("d6;", 1);
        fault("k4;", 1);
        fault("m61;", 1);
        fault("w0;", 1);
        fault("w10;", 1);
        fault("h03;", 1);
        fault("h00;", 1);
        fault("c1 00 0;", 3);
        fault("h100;", 1);
        fault("h4294967299;", 1);
        fault("c c 100", 2);
        fault("c10 0;", 1);
    }

    private static void faultsOfLetters() {
        fault("x", 0);
        fault("C1 0 0;", 0);
        fault("c1\t0 0;", 2);
        fault("c1 0 0" + (char) 0, 6);
        fault("h3" + (char) 160 + ";", 2);
        fault("h-3;", 1);
        fault("h3:", 2);
        fault("h3/", 2);
    }

    private static void endsTooEarly() {
        fault("c", 1);
        fault("c1", 2);
        fault("c1 0", 4);
        fault("c1 0 0", 6);
        fault("c1 0 0  ", 8);
        fault("w3", 2);
        fault(" w ", 3);
        fault("h3;d1", 5);
    }

    private static void faultChangesNothing() {
        GuardCells x = Due.told("c2 0 0;h7;");
        x.offers(0, 33);
        x.sees(1, 0);
        x.keep(1);
        x.seeds(4);
        Due.due("tells()", Due.tell(x, "c1 0 0;h1;h1;"), -20);
        int[] same = {1, 1, 7, 2, 1, 10, 3, 4, 1, 13, 1, 0};
        for (int what = 0; what < same.length; what++) {
            Due.due("behind a fault: count(" + what + ")", x.count(what), same[what]);
        }
        Due.due("behind a fault: cell(0, 0)", x.cell(0, 0), 2);
        Due.due("behind a fault: tells() again", x.tells(), -20);
        Due.due("behind a fault: back(1)", x.back(1), 1);
    }
}
