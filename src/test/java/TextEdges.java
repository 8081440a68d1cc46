/** Terms 1 and promises 1 to 4: what a text may tell, and where its FAULT is. */
final class TextEdges {
    private static final String FAULT_OF_ORDER = "the place of the first letter of the first TOKEN that can't stand there";
    private static final char[] SETTINGS = {'h', 'd', 'k', 'm', 'w'};

    private TextEdges() {
    }

    private static void reads(String text, int items) {
        Due.due("tells() of '" + text + "'", Due.tell(new GuardCells(), text), items);
    }

    private static void faultAt(String text, int place) {
        GuardCells x = new GuardCells();
        Due.due("tells() of '" + text + "'", Due.tell(x, text), -10 - place);
        Due.due("THE TEXT '" + text + "' stays", x.count(9), text.length());
        Due.due("CELLS behind '" + text + "'", x.count(0), 0);
    }

    /** The number of an ITEM of one NUMBER: least and most may be told, one beyond may not; what it is at first. */
    private static void setting(char letter, int what, int least, int most, int first) {
        Due.due("at first", new GuardCells().count(what), first);
        for (int number = least; number <= most; number++) {
            GuardCells x = Due.told(letter + "" + number + ";");
            Due.due("told " + number, x.count(what), number);
            Due.due("not told behind " + number, Due.tell(x, ""), 0);
            Due.due("as at first behind " + number, x.count(what), first);
        }
        if (least > 0) {
            faultAt(letter + " " + (least - 1) + ";", 2);
        }
        faultAt(letter + " " + (most + 1) + ";", 2);
        faultAt(letter + " 99;", 2);
    }

    // ---- the ranges

    static void cellsFourAtMost() {
        Sentence.of("Terms 1", "(4 at most)");
        GuardCells x = new GuardCells();
        for (int cells = 0; cells <= 4; cells++) {
            Due.due("tells() of " + cells, Due.tell(x, "c1 0 0;".repeat(cells)), cells);
            Due.due("CELLS", x.count(0), cells);
            Due.due("the last", x.cell(cells - 1, 0), cells == 0 ? GuardCells.BAD : 1);
            Due.due("one beyond", x.cell(cells, 0), GuardCells.BAD);
        }
        faultAt("c1 0 0;".repeat(5), 28);
    }

    static void channelsOneToSix() {
        Sentence.of("Terms 1", "each has CHANNELS (1 .. 6)");
        for (int channels = 1; channels <= 6; channels++) {
            Due.due("CHANNELS", Due.told("c" + channels + " 0 0;").cell(0, 0), channels);
        }
        faultAt("c0 0 0;", 1);
        faultAt("c7 0 0;", 1);
        faultAt("c1 0 0;c99 0 0;", 8);
    }

    static void guardUpToTenTimesChannels() {
        Sentence.of("Terms 1", "a GUARD (tenths: 0 .. 10 times CHANNELS)");
        for (int channels = 1; channels <= 6; channels++) {
            Due.due("none", Due.told("c" + channels + " 0 0;").cell(0, 1), 0);
            Due.due("all", Due.told("c" + channels + " " + 10 * channels + " 0;").cell(0, 1), 10 * channels);
            faultAt("c" + channels + " " + (10 * channels + 1) + " 0;", 3);
        }
        // Each GUARD goes by the CHANNELS of its own CELL.
        faultAt("c6 60 0;c1 11 0;", 11);
        reads("c1 10 0;c6 60 0;", 2);
    }

    static void placesNoneToFour() {
        Sentence.of("Terms 1", "PLACES of its QUEUE (0 .. 4)");
        for (int places = 0; places <= 4; places++) {
            Due.due("PLACES", Due.told("c1 0 " + places + ";").cell(0, 2), places);
        }
        faultAt("c1 0 5;", 5);
    }

    static void hysteresis() {
        Sentence.of("Terms 1", "HYSTERESIS (0 .. 20; 3 at first)");
        setting('h', 2, 0, 20, 3);
    }

    static void dwell() {
        Sentence.of("Terms 1", "DWELL (1 .. 5; 2 at first)");
        setting('d', 3, 1, 5, 2);
    }

    static void filter() {
        Sentence.of("Terms 1", "FILTER (0 .. 3; 1 at first)");
        setting('k', 4, 0, 3, 1);
    }

    static void need() {
        Sentence.of("Terms 1", "NEED (0 .. 60; 10 at first)");
        setting('m', 5, 0, 60, 10);
    }

    static void window() {
        Sentence.of("Terms 1", "WINDOW (1 .. 9; 3 at first)");
        setting('w', 6, 1, 9, 3);
    }

    // ---- the text

    static void hundredTwentyLetters() {
        Sentence.of("Terms 1", "They are a text (120 letters at most), told letter by letter");
        String item = "c1 0 0;";
        reads(" ".repeat(113) + item, 1);
        reads(item + " ".repeat(113), 1);
        // The last ; is letter 121: the text ends too early.
        GuardCells x = new GuardCells();
        Due.due("tells()", Due.tell(x, " ".repeat(114) + item), -10 - 120);
        Due.due("letters", x.count(9), 120);
        reads("0".repeat(120), -10);
        reads(";".repeat(120), -10);
    }

    static void blanksAnyNumber() {
        Sentence.of("Terms 1", "blanks (32), any number, ahead of, between, behind TOKENS");
        String[] tokens = {"c", "6", "60", "4", ";", "h", "20", ";"};
        for (int many = 1; many <= 9; many++) {
            String blanks = " ".repeat(many);
            GuardCells x = Due.told(blanks + String.join(blanks, tokens) + blanks);
            Due.due("CELLS", x.count(0), 1);
            Due.due("CHANNELS", x.cell(0, 0), 6);
            Due.due("GUARD", x.cell(0, 1), 60);
            Due.due("PLACES", x.cell(0, 2), 4);
            Due.due("HYSTERESIS", x.count(2), 20);
        }
        faultAt("c\t1 0 0;", 1);
        faultAt("\nc1 0 0;", 0);
        faultAt("c1 0 0;\r", 7);
        faultAt("h3;" + (char) 160, 3);
    }

    static void blanksOnlyBetweenNumbers() {
        Sentence.of("Terms 1", "(needed only between two NUMBERS)");
        reads("c6 60 4;c1 0 0;h20;d5;k3;m60;w9;", 7);
        // Without the blank 1 and 0 are 10, and no third NUMBER comes.
        faultAt("c10 0;", 1);
        faultAt("c1 00;", 3);
        faultAt("c110 0;", 1);
    }

    static void itemsAreEnded() {
        Sentence.of("Terms 1", "ITEMS, each ended by ;");
        faultAt("c1 0 0h3;", 6);
        faultAt("h3d1;", 2);
        faultAt("h3 c1 0 0;", 3);
        faultAt("w3", 2);
        faultAt("h3;;", 3);
        faultAt(";", 0);
    }

    static void theNextCell() {
        Sentence.of("Terms 1", "c N G P (the next CELL)");
        GuardCells x = Due.told("c3 1 0;h4;c2 20 1;w9;d5;c6 7 4;m0;k0;c1 0 2;");
        int[][] due = {{3, 1, 0}, {2, 20, 1}, {6, 7, 4}, {1, 0, 2}};
        for (int cell = 0; cell < 4; cell++) {
            for (int what = 0; what < 3; what++) {
                Due.due("cell(" + cell + ", " + what + ")", x.cell(cell, what), due[cell][what]);
            }
        }
    }

    static void fiveOnceAtMost() {
        Sentence.of("Terms 1", "each of these five once at most");
        reads("h1;d1;k1;m1;w1;", 5);
        reads("w1;m1;k1;d1;h1;", 5);
        for (char letter : SETTINGS) {
            faultAt(letter + "1;" + letter + "1;", 3);
            faultAt(letter + "1;c1 0 0;" + letter + "2;", 10);
        }
        // What a text tells does not count for the next one.
        GuardCells x = Due.told("h1;d1;k1;m1;w1;");
        Due.due("told anew", Due.tell(x, "h2;d2;k2;m2;w2;"), 5);
    }

    static void noItems() {
        Sentence.of("Terms 1", "No ITEMS are no FAULT.");
        reads("", 0);
        reads(" ", 0);
        reads(" ".repeat(120), 0);
    }

    // ---- FAULT

    /** At each place of an ITEM each TOKEN that can't stand there, and behind it what would be wrong, too. */
    private static void othersCannotStand(String ahead, String may) {
        for (String token : new String[] {"c", "h", "d", "k", "m", "w", "1", ";"}) {
            if (!may.contains(token)) {
                faultAt(ahead + token + " x", ahead.length());
                faultAt(ahead + "  " + token, ahead.length() + 2);
                faultAt(ahead + token + " 100 00 ;", ahead.length());
            }
        }
    }

    static void tokensThatCannotStand() {
        Sentence.of("Terms 1", FAULT_OF_ORDER);
        othersCannotStand("", "chdkmw");
        // 99 is the number of the letter c, yet it is a NUMBER.
        faultAt("99 1 0 0;", 0);
        faultAt("c1 0 0;99 1 0 0;", 7);
        othersCannotStand("c1 0 0;", "chdkmw");
        othersCannotStand("c ", "1");
        othersCannotStand("c1 ", "1");
        othersCannotStand("c1 0 ", "1");
        othersCannotStand("c1 0 0 ", ";");
        for (char letter : SETTINGS) {
            othersCannotStand(letter + " ", "1");
            othersCannotStand(letter + "1 ", ";");
        }
    }

    static void firstTokenOfSeveral() {
        Sentence.of("Terms 1", "of the first TOKEN that can't stand there");
        faultAt("c7 61 5;", 1);
        faultAt("c1 11 5;", 3);
        faultAt("c c x", 2);
        faultAt("h21;x", 1);
        faultAt("h3;h21;", 3);
        faultAt("c1 0 0;c1 0 0;c1 0 0;c1 0 0;c9 99 9;", 28);
        faultAt("d", 1);
        faultAt("d;", 1);
    }

    static void fifthCell() {
        Sentence.of("Terms 1", "a fifth c");
        String four = "c1 0 0;c1 0 0;c1 0 0;c1 0 0;";
        faultAt(four + "c", 28);
        faultAt(four + "  c1 0 0;", 30);
        faultAt(four + "h3;c1 0 0;", 31);
        reads(four + "h3;", 5);
    }

    static void letterToldAgain() {
        Sentence.of("Terms 1", "a letter told again");
        for (char letter : SETTINGS) {
            faultAt(letter + "1; " + letter, 4);
            faultAt("c1 0 0;" + letter + "1;c1 0 0;" + letter + "1;", 17);
        }
    }

    static void numberBeyond() {
        Sentence.of("Terms 1", "a NUMBER beyond what it may be");
        faultAt("c  0 0 0;", 3);
        faultAt("c  7 0 0;", 3);
        faultAt("c2  21 0;", 4);
        faultAt("c2 20  5;", 7);
        faultAt("h  21;", 3);
        faultAt("d  0;", 3);
        faultAt("d  6;", 3);
        faultAt("k  4;", 3);
        faultAt("m  61;", 3);
        faultAt("w  0;", 3);
        faultAt("w  10;", 3);
    }

    private static boolean isKnown(int letter) {
        return letter == ' ' || letter == ';' || "chdkmw".indexOf(letter) >= 0 || letter >= '0' && letter <= '9';
    }

    static void anyOtherLetter() {
        Sentence.of("Terms 1", "of any other letter");
        for (int letter = 0; letter <= 255; letter++) {
            if (!isKnown(letter)) {
                String other = String.valueOf((char) letter);
                faultAt(other, 0);
                faultAt("  " + other + "c1 0 0;", 2);
                faultAt("c" + other, 1);
                faultAt("c1" + other + " 0 0;", 2);
                faultAt("c1 0 0 " + other + ";", 7);
                faultAt("h" + other + "3;", 1);
                faultAt("h3;" + other, 3);
            }
        }
    }

    static void numberAboveNinetyNine() {
        Sentence.of("Terms 1", "a NUMBER above 99");
        // Each of these would be a small NUMBER if it were cut, or left over by 2 to the 8, 16, 32 or 64.
        String[] above = {"100", "103", "259", "999", "65539", "4294967299", "18446744073709551619", "1" + "0".repeat(60)};
        for (String number : above) {
            faultAt("h " + number + ";", 2);
            faultAt("c1 " + number + " 0;", 3);
            faultAt("c1 0 0;" + number, 7);
            faultAt("c1 0 0 " + number + ";", 7);
        }
        faultAt("h99;", 1);
    }

    static void zeroAhead() {
        Sentence.of("Terms 1", "with a 0 ahead of others");
        for (String number : new String[] {"00", "01", "03", "010", "000", "0000000003"}) {
            faultAt("h" + number + ";", 1);
            faultAt("c6 " + number + " 0;", 3);
            faultAt("c" + number + " 0 0;", 1);
            faultAt("c1 0 " + number + ";", 5);
        }
        reads("h0;k0;m0;c1 0 0;c1 10 0;", 5);
    }

    static void endsTooEarly() {
        Sentence.of("Terms 1", "the text's length, if it ends too early");
        String[] early = {"c", "c1", "c1 0", "c1 0 0", "h", "h3", "d", "d1", "k", "k1", "m", "m1", "w", "w1"};
        for (String text : early) {
            faultAt(text, text.length());
            faultAt(text + "   ", text.length() + 3);
            faultAt("c6 60 4;" + text, text.length() + 8);
        }
        GuardCells x = new GuardCells();
        Due.due("120 letters", Due.tell(x, "c1 0 0" + " ".repeat(114)), -130);
    }

    // ---- promises 1 to 4

    static void newObject() {
        Sentence.of("Promise 1", "As told; no CELLS.");
        GuardCells x = new GuardCells();
        int[] first = {0, 0, 3, 2, 1, 10, 3, 0, 0, 0, 0, 0};
        for (int what = 0; what < first.length; what++) {
            Due.due("count(" + what + ")", x.count(what), first[what]);
        }
        for (int i = 0; i < 12; i++) {
            Due.due("cell(" + i + ", 0)", x.cell(i, 0), GuardCells.BAD);
            Due.due("call(" + i + ", 0)", x.call(i, 0), GuardCells.NO);
        }
        Due.due("offers(0, 0)", x.offers(0, 0), GuardCells.BAD);
        Due.due("pair(0, 0)", x.pair(0, 0), GuardCells.NONE);
        Due.due("undo()", x.undo(), GuardCells.STATE);
        Due.due("back(0)", x.back(0), GuardCells.STATE);
        Due.due("back(1)", x.back(1), GuardCells.STATE);
    }

    static void typeLetters() {
        Sentence.of("Promise 2", "A letter (0 .. 255) comes to THE TEXT: how many it has.");
        GuardCells x = new GuardCells();
        Due.due("type(0)", x.type(0), 1);
        Due.due("type(255)", x.type(255), 2);
        Due.due("count(9)", x.count(9), 2);
        for (int letter = 0; letter <= 255; letter++) {
            GuardCells y = new GuardCells();
            Due.due("type(" + letter + ")", y.type(letter), 1);
        }
    }

    static void typeFull() {
        Sentence.of("Promise 2", "FULL: 120.");
        GuardCells x = new GuardCells();
        Due.type(x, "c1 0 0;");
        for (int many = 8; many <= 120; many++) {
            Due.due("type()", x.type(' '), many);
        }
        Due.due("type() with 120", x.type('x'), GuardCells.FULL);
        Due.due("type() with 120", x.type(' '), GuardCells.FULL);
        Due.due("letters", x.count(9), 120);
        Due.due("what was refused does not stand there", x.tells(), 1);
        Due.due("room again", x.type('x'), 1);
    }

    static void clearEmpties() {
        Sentence.of("Promise 3", "THE TEXT is empty: how many letters it had.");
        GuardCells x = new GuardCells();
        Due.due("clear() of none", x.clear(), 0);
        x.type('q');
        Due.due("clear() of one", x.clear(), 1);
        Due.due("clear() again", x.clear(), 0);
        Due.type(x, "x".repeat(121));
        Due.due("clear() of 120", x.clear(), 120);
        Due.due("letters", x.count(9), 0);
        Due.due("type()", x.type(' '), 1);
        Due.due("nothing of it is left", x.tells(), 0);
    }

    static void tellsItems() {
        Sentence.of("Promise 4", "THE TEXT tells all anew, and is empty then: how many ITEMS.");
        GuardCells x = new GuardCells();
        Due.due("none", x.tells(), 0);
        Due.due("nine at most", Due.tell(x, "c1 0 0;c1 0 0;c1 0 0;c1 0 0;h1;d1;k1;m1;w1;"), 9);
        Due.due("letters", x.count(9), 0);
        Due.due("it is empty", x.tells(), 0);
        Due.due("no CELLS any more", x.count(0), 0);
        Due.due("one", Due.tell(x, "w1;"), 1);
    }

    static void tellsFault() {
        Sentence.of("Promise 4", "-10 less FAULT: nothing changes (THE TEXT stays, too).");
        faultAt("x", 0);
        GuardCells x = Due.told("c2 3 1;h7;");
        Due.due("tells()", Due.tell(x, "c1 0 0;c1 0 0;d5;k0;m0;w1;h0"), -10 - 28);
        int[] same = {1, 0, 7, 2, 1, 10, 3, 0, 0, 28, 0, 0};
        for (int what = 0; what < same.length; what++) {
            Due.due("count(" + what + ")", x.count(what), same[what]);
        }
        Due.due("CHANNELS", x.cell(0, 0), 2);
        Due.due("GUARD", x.cell(0, 1), 3);
        Due.due("PLACES", x.cell(0, 2), 1);
        Due.due("again", x.tells(), -10 - 28);
        Due.due("THE TEXT can go on", x.type(';'), 29);
        Due.due("then it tells", x.tells(), 7);
    }
}
