/** Promises 6 to 8: the tape, the texts of tables, and their faults. */
final class TextTest {
    public static void main(String[] args) {
        feeding();
        tables();
        faultsOfLaw();
        faultsOfCells();
        faultsOfPasses();
        room();
        faultsLeaveAll();
        newTables();
        oldBytes();
        Checks.end();
    }

    private static void fault(String text, int number, int place) {
        PadPolish x = new PadPolish();
        Checks.due("table() of \"" + text + "\"", Checks.tell(x, text), -1000100 - place);
        Checks.due("fault() of \"" + text + "\"", x.fault(), number);
        Checks.due("tape behind \"" + text + "\"", x.count(6), 0);
        Checks.due("there is no table", x.thin(), PadPolish.STATE);
    }

    private static PadPolish good(String text, int passes) {
        PadPolish x = new PadPolish();
        Checks.due("table() of \"" + text + "\"", Checks.tell(x, text), passes);
        Checks.due("fault() of \"" + text + "\"", x.fault(), 0);
        Checks.due("tape behind \"" + text + "\"", x.count(6), 0);
        Checks.due("passes of \"" + text + "\"", x.count(1), passes);
        return x;
    }

    private static void feeding() {
        PadPolish x = new PadPolish();
        for (int letter : new int[] {Integer.MIN_VALUE, -1, 256, Integer.MAX_VALUE}) {
            Checks.due("feed(" + letter + ")", x.feed(letter), PadPolish.BAD);
        }
        for (int n = 1; n <= 120; n++) {
            Checks.due("byte " + n, x.feed(n % 2 == 0 ? 0 : 255), n);
        }
        Checks.due("the 121st", x.feed('t'), PadPolish.FULL);
        Checks.due("BAD ahead of FULL", x.feed(256), PadPolish.BAD);
        Checks.due("bytes", x.count(6), 120);
        Checks.due("table", x.table(), -1000100);
        Checks.due("bytes", x.count(6), 0);
        Checks.due("the first anew", x.feed('t'), 1);
    }

    private static void tables() {
        PadPolish x = good("t0,0;", 0);
        Checks.due("no film", x.count(3), 0);
        x = good("t09,07;f00,00;f14,99;", 0);
        Checks.due("sink", x.count(2), 9);
        Checks.due("oil", x.pad(1), 7);
        Checks.due("wet", x.pad(0), 0);
        Checks.due("spent", x.pad(2), 0);
        Checks.due("film of 0", x.cell(0, 0), 0);
        Checks.due("film of 14", x.cell(14, 0), 99);
        x = good("t1,2;g7;s0e;d4w;r10neeb;", 4);
        Checks.due("kinds", x.kind(0) * 1000 + x.kind(1) * 100 + x.kind(2) * 10 + x.kind(3), 1235);
        x = good("t1,2;c14;", 1);
        Checks.due("kind", x.kind(0), 4);
        x = good("t1,2;f3,5;g0ebebwnn;", 1);
        int[] way = {0, 1, 6, 7, 12, 11, 6, 1};
        Checks.due("path length", x.path(0, -1), 8);
        for (int k = 0; k < way.length; k++) {
            Checks.due("path " + k, x.path(0, k), way[k]);
        }
        good("t1,2;g0ewewewew;", 1);
        good("t1,2;g2bbnnbbnn;", 1);
        good("t1,2;r7ewewewew;c14nnbbnnbb;d10eeeewwww;s4wwwweeee;", 4);
    }

    private static void faultsOfLaw() {
        fault("", 1, 0);
        fault("x", 1, 0);
        fault("T0,0;", 1, 0);
        fault(" t0,0;", 1, 0);
        fault("0", 1, 0);
        fault("t", 1, 1);
        fault("tt", 1, 1);
        fault("t,", 1, 1);
        fault("t100,0;", 1, 1);
        fault("t000,0;", 1, 1);
        fault("t10,0;", 2, 1);
        fault("t99,0;", 2, 1);
        fault("t0", 1, 2);
        fault("t0;", 1, 2);
        fault("t00;", 1, 3);
        fault("t0,", 1, 3);
        fault("t0,,", 1, 3);
        fault("t0,10;", 2, 3);
        fault("t0,1000;", 1, 3);
        fault("t0,9", 1, 4);
        fault("t0,9,", 1, 4);
        fault("t0,9;t", 1, 5);
        fault("t0,9;;", 1, 5);
        fault("t0,9;5", 1, 5);
        fault("t0,9; ", 1, 5);
        fault("t0,9;e", 1, 5);
        fault("t0,9;" + (char) 0, 1, 5);
        fault("t0,9;" + (char) 255, 1, 5);
        fault("t10,99", 2, 1);
    }

    private static void faultsOfCells() {
        String law = "t0,0;";
        fault(law + "f", 1, 6);
        fault(law + "ff", 1, 6);
        fault(law + "f15,0;", 2, 6);
        fault(law + "f99,0;", 2, 6);
        fault(law + "f014,0;", 1, 6);
        fault(law + "f14;", 1, 8);
        fault(law + "f14", 1, 8);
        fault(law + "f14,", 1, 9);
        fault(law + "f14,;", 1, 9);
        fault(law + "f14,100;", 1, 9);
        fault(law + "f14,99", 1, 11);
        fault(law + "f14,99,", 1, 11);
        fault(law + "f1,1;f01,2;", 2, 11);
        fault(law + "f1,1;f2,2;f1,x", 2, 16);
        fault(law + "f1,1;g1;f2,2;", 1, 13);
    }

    private static void faultsOfPasses() {
        String law = "t0,0;";
        for (char sort : new char[] {'g', 's', 'd', 'c', 'r'}) {
            fault(law + sort, 1, 6);
            fault(law + sort + ";", 1, 6);
            fault(law + sort + "e", 1, 6);
            fault(law + sort + "15;", 2, 6);
            fault(law + sort + "150;", 1, 6);
            fault(law + sort + "1", 1, 7);
            fault(law + sort + "1,", 1, 7);
            fault(law + sort + "1x;", 1, 7);
            fault(law + sort + "1s;", 1, 7);
            fault(law + sort + "1e", 1, 8);
            fault(law + sort + "1e2;", 1, 8);
        }
        for (int cell = 0; cell < 15; cell++) {
            steps(cell, 'e', cell % 5 < 4);
            steps(cell, 'w', cell % 5 > 0);
            steps(cell, 'n', cell > 4);
            steps(cell, 'b', cell < 10);
        }
        fault(law + "g2eee;", 1, 9);
        fault(law + "g2bbb;", 1, 9);
        fault(law + "g12nnn;", 1, 10);
        fault(law + "g7ewewewewe;", 1, 15);
        fault(law + "g7ewewewew0;", 1, 15);
        fault(law + "g7ewewewew", 1, 15);
    }

    private static void steps(int cell, char step, boolean onTable) {
        String text = "t0,0;g" + cell + step + ";";
        if (onTable) {
            good(text, 1);
        } else {
            fault(text, 1, text.indexOf(';', 5) - 1);
        }
    }

    private static void room() {
        StringBuilder fifteen = new StringBuilder("t0,0;");
        for (int cell = 14; cell >= 0; cell--) {
            fifteen.append('f').append(cell).append(",1;");
        }
        Checks.due("cells", good(fifteen.toString(), 0).count(3), 15);
        fault(fifteen + "f0,1;", 3, fifteen.length());
        fault(fifteen + "f", 3, fifteen.length());
        String four = "t0,0;g0;g1;g2;g3;";
        good(four, 4);
        for (char sort : new char[] {'g', 's', 'd', 'c', 'r'}) {
            fault(four + sort, 3, 17);
        }
        fault(four + "f", 1, 17);
        fault(four + "e", 1, 17);
        fault(four + "0", 1, 17);
        good(fifteen + "g0;s1e;d1;r14;", 4);
        StringBuilder full = new StringBuilder(fifteen).append("g14wnwnwewe;r0ebwewewe;");
        full.append("c12;d3;");
        Checks.due("a long text", Checks.tell(new PadPolish(), full.toString()), 4);
    }

    private static void faultsLeaveAll() {
        PadPolish x = Checks.told("t2,8;f0,50;f6,20;g0eeb;s6w;c0e;");
        x.charge(40, 9);
        x.make(0);
        x.ask(1, 0);
        x.row(0, 0, 1);
        x.set(0, 1, 0);
        String before = Checks.look(x);
        Checks.due("a fault", Checks.tell(x, "t2,8;f0,50;f6,20;g0eeb;s6w;c0e"), -1000100 - 30);
        Checks.due("another", Checks.tell(x, "t5,5;f1,10;f1,20;"), -1000100 - 12);
        Checks.due("its number", x.fault(), 2);
        String behind = Checks.look(x);
        Checks.due("all stays: " + before + " / " + behind, before.equals(behind) ? 1 : 0, 1);
        Checks.due("the status stays", x.status(), 2);
        Checks.due("acts can be undone yet", x.undo(), 1);
        Checks.due("and again", x.undo(), 0);
        Checks.film(x, "undone", 0, 50, 0, 0);
        Checks.due("a table that is read", Checks.tell(x, "t0,0;"), 0);
        Checks.due("leaves the latest fault", x.fault(), 2);
    }

    private static void newTables() {
        PadPolish x = Checks.told("t2,8;f0,50;f6,20;g0eeb;s6w;c0e;");
        x.charge(40, 9);
        x.make(0);
        x.make(1);
        x.row(0, 0, 9);
        Checks.due("a table in its place", Checks.tell(x, "t1,4;f3,7;d3e;"), 1);
        Checks.due("nothing to be undone", x.count(5), 0);
        Checks.due("nothing to be undone", x.undo(), PadPolish.STATE);
        Checks.pad(x, "new", 0, 4, 0);
        Checks.due("one cell with film", x.count(3), 1);
        Checks.due("none is soft", x.count(4), 0);
        for (int cell = 0; cell < 15; cell++) {
            Checks.film(x, "new", cell, cell == 3 ? 7 : 0, 0, 0);
        }
        Checks.due("one pass", x.path(1, 0), PadPolish.BAD);
        Checks.due("rows stay", x.count(0), 1);
        x.charge(40, 9);
        x.make(0);
        Checks.due("a faulty one", Checks.tell(x, "t5,6;f7,7;g0;x"), -1000100 - 13);
        Checks.due("a third table", Checks.tell(x, "t0,0;"), 0);
        Checks.pad(x, "third", 0, 0, 0);
        Checks.due("sink", x.count(2), 0);
        for (int cell = 0; cell < 15; cell++) {
            Checks.film(x, "third", cell, 0, 0, 0);
        }
    }

    /** Bytes of an earlier text lie behind a shorter one in memory; they are none of it. */
    private static void oldBytes() {
        PadPolish x = new PadPolish();
        Checks.due("a long one", Checks.tell(x, "t5,555;"), -1000100 - 3);
        Checks.due("a shorter one", Checks.tell(x, "t5,5"), -1000100 - 4);
        Checks.due("a number at the end", Checks.tell(x, "t5,"), -1000100 - 3);
        Checks.due("its fault", x.fault(), 1);
        Checks.due("a good one", Checks.tell(x, "t5,5;"), 0);
        Checks.due("one without its end", Checks.tell(x, "t5,5"), -1000100 - 4);
    }
}
