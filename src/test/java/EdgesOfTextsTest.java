/**
 * The edges of promises 6 to 8: the tape, tokens, numbers, room, the places and the order of faults. Above each test
 * stands the sentence of the document that it holds to.
 */
final class EdgesOfTextsTest {
    private static final String LAW = "t1,1;";
    private static final String SORTS = "gsdcr";
    private static final String FIGURES = "0123456789";
    private static final String FIFTEEN = Checks.filmText(1, 1, 1, 1, 1, 1, 1, 1, 1, 1, 1, 1, 1, 1, 1);
    private static final String FOUR = LAW + "g0;g0;g0;g0;";

    public static void main(String[] args) {
        feedBytes();
        feedFull();
        feedAfterReading();
        emptyTape();
        longestTape();
        tapeIsEmptyBehind();
        bytesInTheLaw();
        bytesInCells();
        bytesInPasses();
        numbersOfTheLaw();
        numbersOfCells();
        numbersOfPasses();
        threeFigures();
        likeCells();
        filmElseNone();
        cellsAtMost();
        stepsAtMost();
        stepsOffTheTable();
        passesAtMost();
        endsTooEarly();
        firstOfFaults();
        leastOfOneToken();
        faultAtFirst();
        faultLatest();
        faultLeavesAll();
        newTableWipes();
        newTableLeaves();
        Checks.end();
    }

    private static void fault(String text, int number, int place) {
        PadPolish x = new PadPolish();
        Checks.due("table() of \"" + text + "\"", Checks.tell(x, text), -1000100 - place);
        Checks.due("fault() of \"" + text + "\"", x.fault(), number);
    }

    private static PadPolish good(String text, int passes) {
        PadPolish x = new PadPolish();
        Checks.due("table() of \"" + text + "\"", Checks.tell(x, text), passes);
        Checks.due("fault() of \"" + text + "\"", x.fault(), 0);
        return x;
    }

    // feed: "A byte (0 to 255)", "BAD"
    private static void feedBytes() {
        PadPolish x = new PadPolish();
        for (int letter = 0; letter <= 255; letter++) {
            if (letter % 120 == 0) {
                x.table();
            }
            Checks.due("feed(" + letter + ")", x.feed(letter), letter % 120 + 1);
        }
        for (int letter : new int[] {Integer.MIN_VALUE, -1, 256, 256 + 't', Integer.MAX_VALUE}) {
            Twins.refused("feed(" + letter + ")", Twins::full, y -> y.feed(letter), PadPolish.BAD);
        }
    }

    // "THE TAPE has at most 120 bytes", feed: "BAD; FULL"
    private static void feedFull() {
        PadPolish x = new PadPolish();
        for (int n = 1; n <= 120; n++) {
            Checks.due("byte " + n, x.feed(';'), n);
            Checks.due("bytes", x.count(6), n);
        }
        Checks.due("byte 121", x.feed(';'), PadPolish.FULL);
        Checks.due("bytes", x.count(6), 120);
        for (int letter : new int[] {0, ';', 255}) {
            Twins.refused("feed(" + letter + ")", Twins::crammed, y -> y.feed(letter), PadPolish.FULL);
        }
        for (int letter : new int[] {-1, 256}) {
            Twins.refused("feed(" + letter + ")", Twins::crammed, y -> y.feed(letter), PadPolish.BAD);
        }
    }

    // "how many it has"
    private static void feedAfterReading() {
        PadPolish x = Twins.after(Twins::crammed);
        x.table();
        Checks.due("the first byte anew", x.feed('t'), 1);
        x = new PadPolish();
        Checks.tell(x, "faulty");
        Checks.due("the first byte anew", x.feed('t'), 1);
    }

    // "the end: how many bytes there are"
    private static void emptyTape() {
        fault("", 1, 0);
    }

    private static void longestTape() {
        Checks.due("its bytes", Twins.LONGEST.length(), 120);
        PadPolish x = good(Twins.LONGEST, 4);
        Checks.due("all cells", x.count(3), 15);
        Checks.due("its last step", x.path(3, 2), 4);
        // 120 bytes, of which the last is missing, or wrong.
        fault(Twins.LONGEST.substring(0, 119), 1, 119);
        fault(Twins.LONGEST.substring(0, 119) + ",", 1, 119);
        fault(Twins.LONGEST.replace("nn;", "nnb"), 1, 120);
        x = new PadPolish();
        Checks.feed(x, Twins.LONGEST);
        Checks.due("one more", x.feed('x'), PadPolish.FULL);
        Checks.due("which is no part of the text", x.table(), 4);
    }

    // table: "The tape, empty then, is read"
    private static void tapeIsEmptyBehind() {
        PadPolish x = new PadPolish();
        Checks.due("a table", Checks.tell(x, LAW), 0);
        Checks.due("bytes", x.count(6), 0);
        Checks.due("read again", x.table(), -1000100);
        Checks.due("its fault", x.fault(), 1);
        Checks.due("a fault", Checks.tell(x, "t1,1;x"), -1000105);
        Checks.due("bytes", x.count(6), 0);
        Checks.due("read again", x.table(), -1000100);
        Checks.due("a longer text, then a shorter one", Checks.tell(x, FOUR) + Checks.tell(x, LAW), 4);
    }

    /**
     * Each byte behind a text that is right so far: those told may stand there, and the end is what lacks then, or
     * the table is read; a figure makes a run of three that begins at numberAt (if there is one); no other byte can
     * stand there.
     */
    private static void bytesBehind(String text, String fitting, int numberAt) {
        for (char letter = 0; letter <= 255; letter++) {
            String whole = text + letter;
            if (fitting.indexOf(letter) < 0) {
                boolean run = numberAt >= 0 && FIGURES.indexOf(letter) >= 0;
                fault(whole, 1, run ? numberAt : text.length());
            } else if (letter == ';') {
                good(whole, Checks.told(whole).count(1));
            } else {
                fault(whole, 1, whole.length());
            }
        }
    }

    // "TOKENS: letters a to z, NUMBERS, SIGNS , and ; nothing else", "1 it cannot stand there, or is none"
    private static void bytesInTheLaw() {
        bytesBehind("", "t", -1);
        bytesBehind("t", FIGURES, -1);
        bytesBehind("t01", ",", 1);
        bytesBehind("t01,", FIGURES, -1);
        bytesBehind("t01,01", ";", 4);
        bytesBehind(LAW, "f" + SORTS, -1);
    }

    // the same
    private static void bytesInCells() {
        bytesBehind(LAW + "f", FIGURES, -1);
        bytesBehind(LAW + "f01", ",", 6);
        bytesBehind(LAW + "f01,", FIGURES, -1);
        bytesBehind(LAW + "f01,01", ";", 9);
        bytesBehind(LAW + "f01,01;", "f" + SORTS, -1);
        bytesBehind(LAW + "f0,1;f1,1;", "f" + SORTS, -1);
    }

    // the same
    private static void bytesInPasses() {
        for (int i = 0; i < SORTS.length(); i++) {
            String text = LAW + SORTS.charAt(i);
            bytesBehind(text, FIGURES, -1);
            bytesBehind(text + "07", "ewnb;", 6);
            bytesBehind(text + "07e", "ewnb;", -1);
            bytesBehind(text + "7ewewewe", "ewnb;", -1);
            bytesBehind(text + "7ewewewew", ";", -1);
            bytesBehind(text + "07;", SORTS, -1);
        }
        bytesBehind(LAW + "g0;g0;g0;", SORTS, -1);
    }

    /** Each number of one and two figures between two texts: up to most it is as told, above that it is not. */
    private static void numbers(String ahead, int most, String behind) {
        for (int v = 0; v <= 99; v++) {
            String brief = ahead + v + behind;
            String full = ahead + v / 10 + v % 10 + behind;
            if (v <= most) {
                good(brief, Checks.told(brief).count(1));
                good(full, Checks.told(full).count(1));
            } else {
                fault(brief, 2, ahead.length());
                fault(full, 2, ahead.length());
            }
        }
    }

    // "law: t SINK , OIL ; (0 to 9; 0 to 9)", "2 a NUMBER that is not as told"
    private static void numbersOfTheLaw() {
        numbers("t", 9, ",5;");
        numbers("t5,", 9, ";");
        for (int v = 0; v <= 9; v++) {
            PadPolish x = good("t" + v + "," + (9 - v) + ";", 0);
            Checks.due("sink", x.count(2), v);
            Checks.due("oil", x.pad(1), 9 - v);
        }
    }

    // "cell: f CELL , FILM ; (0 to 14, unlike; 0 to 99 ..)"
    private static void numbersOfCells() {
        numbers(LAW + "f", 14, ",5;");
        numbers(LAW + "f5,", 99, ";");
        for (int cell = 0; cell <= 14; cell++) {
            PadPolish x = good(LAW + "f" + cell + ",99;", 0);
            Checks.due("film of cell " + cell, x.cell(cell, 0), 99);
            Checks.due("cells with film", x.count(3), 1);
        }
        Checks.due("film of 0", good(LAW + "f3,0;", 0).cell(3, 0), 0);
        Checks.due("film of 00", good(LAW + "f3,00;", 0).cell(3, 0), 0);
        Checks.due("film of 07", good(LAW + "f3,07;", 0).cell(3, 0), 7);
    }

    // "pass: SORT CELL { STEP } ; (.. 0 to 14 ..)"
    private static void numbersOfPasses() {
        for (int i = 0; i < SORTS.length(); i++) {
            numbers(LAW + SORTS.charAt(i), 14, ";");
        }
        for (int cell = 0; cell <= 14; cell++) {
            Checks.due("a pass on cell " + cell, good(LAW + "c" + cell + ";", 1).path(0, 0), cell);
        }
    }

    // "NUMBERS (figures, 2 at most)", "a run of three figures, at its first"
    private static void threeFigures() {
        String[] runs = {"000", "001", "010", "100", "999", "0000", "1234", "00000000"};
        for (String run : runs) {
            fault("t" + run + ",0;", 1, 1);
            fault("t0," + run + ";", 1, 3);
            fault(LAW + "f" + run + ",0;", 1, 6);
            fault(LAW + "f0," + run + ";", 1, 8);
            fault(LAW + "g" + run + ";", 1, 6);
            fault(run, 1, 0);
            fault(LAW + run, 1, 5);
            // The run is at fault even if the text ends with it.
            fault("t" + run, 1, 1);
        }
        fault("t00", 1, 3);
    }

    // "CELL .. (0 to 14, unlike ..)"
    private static void likeCells() {
        for (int cell = 0; cell <= 14; cell++) {
            String once = LAW + "f" + cell + ",3;";
            fault(once + "f" + cell + ",3;", 2, once.length() + 1);
            String other = once + "f" + (cell + 1) % 15 + ",4;";
            good(other, 0);
            fault(other + "f" + cell + ",0;", 2, other.length() + 1);
        }
        fault(LAW + "f1,1;f01,1;", 2, 11);
        fault(LAW + "f01,1;f1", 2, 12);
        good(LAW + "f1,1;g1;g1;", 2);
    }

    // "else 0"
    private static void filmElseNone() {
        for (int told = 0; told <= 14; told++) {
            PadPolish x = good(LAW + "f" + told + ",8;", 0);
            for (int cell = 0; cell <= 14; cell++) {
                Checks.due("film of cell " + cell, x.cell(cell, 0), cell == told ? 8 : 0);
            }
        }
    }

    // "15 at most", "3 a cell .. more than there is room for (its letter)"
    private static void cellsAtMost() {
        good(LAW, 0);
        Checks.due("cells", good(FIFTEEN, 0).count(3), 15);
        fault(FIFTEEN + "f", 3, FIFTEEN.length());
        fault(FIFTEEN + "f0,1;", 3, FIFTEEN.length());
        fault(FIFTEEN + "f15,1;", 3, FIFTEEN.length());
        String fourteen = FIFTEEN.substring(0, FIFTEEN.length() - 6);
        fault(fourteen + "f", 1, fourteen.length() + 1);
        good(fourteen, 0);
        good(FIFTEEN + "g0;", 1);
        fault(FIFTEEN + "x", 1, FIFTEEN.length());
    }

    // "STEP: .. 8 at most .. such a letter can not stand there"
    private static void stepsAtMost() {
        StringBuilder steps = new StringBuilder();
        for (int n = 0; n <= 8; n++) {
            Checks.due(n + " steps", good(LAW + "g7" + steps + ";", 1).path(0, -1), n + 1);
            steps.append(n % 2 == 0 ? 'e' : 'w');
        }
        for (char step : new char[] {'e', 'w', 'n', 'b'}) {
            fault(LAW + "g7ewewewew" + step + ";", 1, 15);
            fault(LAW + "g7nbnbnbnb" + step, 1, 15);
            good(LAW + "g7ewewewe" + (step == 'e' ? 'w' : step) + ";", 1);
        }
        fault(LAW + "g0;g7ewewewewe;", 1, 18);
    }

    // "STEP: e east, w west, n north, b south, none off the table: such a letter can not stand there"
    private static void stepsOffTheTable() {
        for (int cell = 0; cell <= 14; cell++) {
            step(cell, 'e', cell % 5 == 4 ? -1 : cell + 1);
            step(cell, 'w', cell % 5 == 0 ? -1 : cell - 1);
            step(cell, 'n', cell / 5 == 0 ? -1 : cell - 5);
            step(cell, 'b', cell / 5 == 2 ? -1 : cell + 5);
        }
        good(LAW + "g0eeee;g4wwww;g0bb;g14nn;", 4);
        fault(LAW + "g0eeeee;", 1, 11);
        fault(LAW + "g4wwwww;", 1, 11);
        fault(LAW + "g0bbb;", 1, 9);
        fault(LAW + "g14nnn;", 1, 10);
        // Off the table and on it again.
        fault(LAW + "g4ew;", 1, 7);
    }

    private static void step(int cell, char step, int next) {
        String text = LAW + "g" + cell;
        if (next < 0) {
            fault(text + step + ";", 1, text.length());
        } else {
            Checks.due(text + step, good(text + step + ";", 1).path(0, 1), next);
        }
    }

    // "PASSES 0 .. 3, 4 at most", "3 .. a pass more than there is room for (its letter)"
    private static void passesAtMost() {
        StringBuilder text = new StringBuilder(LAW);
        for (int n = 0; n <= 4; n++) {
            Checks.due(n + " passes", good(text.toString(), n).count(1), n);
            text.append("s").append(n).append(';');
        }
        for (char letter = 0; letter <= 255; letter++) {
            fault(FOUR + letter, SORTS.indexOf(letter) < 0 ? 1 : 3, FOUR.length());
        }
        fault(FOUR + "g15;", 3, FOUR.length());
        fault(FOUR + "g0;g0;", 3, FOUR.length());
    }

    // "the end: how many bytes there are"
    private static void endsTooEarly() {
        String text = "t01,02;f03,04;g05e;";
        for (int n = 0; n <= text.length(); n++) {
            String part = text.substring(0, n);
            if (n == 7 || n == 14 || n == text.length()) {
                good(part, n == text.length() ? 1 : 0);
            } else {
                fault(part, 1, n);
            }
        }
    }

    // "FAULTS, the first TOKEN that has one (its first byte)"
    private static void firstOfFaults() {
        fault("t10,x", 2, 1);
        fault("t10", 2, 1);
        fault("t10000", 1, 1);
        fault("t0,10;f15", 2, 3);
        fault(LAW + "f15,100;", 2, 6);
        fault(LAW + "f14,100;f15", 1, 9);
        fault(LAW + "f1,1;f1,100;", 2, 11);
        fault(LAW + "g15x;", 2, 6);
        fault(LAW + "g14e;g15;", 1, 8);
        fault(FIFTEEN + "f100", 3, FIFTEEN.length());
        fault(FOUR + "gx", 3, FOUR.length());
        fault(LAW + "x" + "f15", 1, 5);
        // A two-figure number is at fault at its first figure.
        fault(LAW + "f0,0;f99,0;", 2, 11);
    }

    // "of one TOKEN the least"
    private static void leastOfOneToken() {
        // A number that no number told there could be, where no number can stand.
        fault("99", 1, 0);
        fault(LAW + "99", 1, 5);
        fault(LAW + "g0e99;", 1, 8);
        // A run of three figures is no number, and would be too much.
        fault("t100,0;", 1, 1);
        fault(LAW + "f0,100;", 1, 8);
        // A cell more than there is room for, where no cell can stand.
        fault(FIFTEEN + "g0;f", 1, FIFTEEN.length() + 3);
        // A pass more than there is room for, where no sort can stand.
        fault(FOUR.substring(0, FOUR.length() - 1) + "g", 1, FOUR.length() - 1);
    }

    // fault: "0 before one"
    private static void faultAtFirst() {
        PadPolish x = new PadPolish();
        Checks.due("fault() of a new object", x.fault(), 0);
        x.feed('x');
        Checks.due("fault() of what is not read yet", x.fault(), 0);
        x = good(LAW, 0);
        Checks.due("a second table", Checks.tell(x, FOUR), 4);
        Checks.due("fault()", x.fault(), 0);
    }

    // fault: "The number of the latest FAULT"
    private static void faultLatest() {
        PadPolish x = new PadPolish();
        Checks.tell(x, "x");
        Checks.due("1", x.fault(), 1);
        Checks.tell(x, FOUR + "g");
        Checks.due("3", x.fault(), 3);
        Checks.tell(x, "t10");
        Checks.due("2", x.fault(), 2);
        Checks.tell(x, LAW);
        Checks.due("2 yet, behind a table without one", x.fault(), 2);
        x.table();
        Checks.due("1", x.fault(), 1);
    }

    // table: "-1000100 less the place of a FAULT: all stays"
    private static void faultLeavesAll() {
        String[] faulty = {"", "x", "t0", "t9,9;f0,1;f0,2;", "t9,9;f0,1;f1,2;g0;s1;d2;c3;r4;", "t9,9;f0,99;g0",
            FIFTEEN + "g0eeee;f"};
        for (String text : faulty) {
            PadPolish told = new PadPolish();
            Checks.tell(told, text);
            int number = told.fault();
            Twins.asks("table() of " + text, x -> withFault(x, number), x -> Checks.tell(x, text));
        }
        Twins.asks("table() of x without a table", EdgesOfTextsTest::withoutTable, x -> Checks.tell(x, "x"));
    }

    /** The tape is empty, and the latest fault has this number, so that another like it changes neither. */
    private static void withFault(PadPolish x, int number) {
        Twins.full(x);
        x.table();
        x.charge(50, 50);
        x.make(0);
        x.image(1);
        x.rest();
        String[] faults = {"", "x", "t10", FOUR + "g"};
        Checks.tell(x, faults[number]);
    }

    private static void withoutTable(PadPolish x) {
        x.row(0, 0, 3);
        x.drop(1);
        Checks.tell(x, "t");
    }

    // "A TABLE that is read stands in place of the one before: the pad has WET 0, OIL as told; nothing is SOFT, there
    // is no HAZE, nothing was SPENT; no ACT can be undone"
    private static void newTableWipes() {
        PadPolish x = Twins.after(Twins::busy);
        x.make(0);
        Checks.due("the first table has soft cells", x.count(4) > 0 ? 1 : 0, 1);
        x.table();
        x.charge(99, 99);
        x.make(0);
        Checks.due("the second has a soft cell", x.count(4), 1);
        Checks.due("the third", Checks.tell(x, "t3,7;f2,9;d3e;"), 1);
        Checks.pad(x, "the pad", 0, 7, 0);
        for (int cell = 0; cell <= 14; cell++) {
            Checks.film(x, "the third table", cell, cell == 2 ? 9 : 0, 0, 0);
            Checks.due("passes across " + cell, x.cell(cell, 3), cell == 3 || cell == 4 ? 1 : 0);
        }
        Checks.due("acts", x.count(5), 0);
        Checks.due("undo", x.undo(), PadPolish.STATE);
        Checks.due("sink", x.count(2), 3);
        Checks.due("no second pass", x.make(1), PadPolish.BAD);
        Checks.due("soft", x.count(4), 0);
        Checks.tell(x, "t0,0;g0;");
        for (int cell = 0; cell <= 14; cell++) {
            Checks.film(x, "the fourth table", cell, 0, 0, 0);
        }
        Checks.pad(x, "the pad", 0, 0, 0);
    }

    /** Rows, images, the trace and the status are none of a table. */
    private static void newTableLeaves() {
        PadPolish x = Twins.after(Twins::full);
        int wet = x.restore(0) == 1 ? x.pad(0) : -1;
        x = Twins.after(Twins::full);
        x.table();
        Checks.due("rows", x.count(0), 4);
        Checks.due("the trace", x.trace(0), 12);
        Checks.due("the status", x.status(), 4);
        Checks.due("an image", x.restore(0), 1);
        Checks.due("as it was", x.pad(0), wet);
    }
}
