/**
 * The edges of promises 1 and 31 to 36: a new object, kinds, asks, the trace, what is counted. Above each test stands
 * the sentence of the document that it holds to.
 */
final class EdgesOfAsksTest {
    private static final int NONE = PadPolish.NONE;
    private static final int BAD = PadPolish.BAD;
    private static final int LEAST = Integer.MIN_VALUE;
    private static final int MOST = Integer.MAX_VALUE;
    private static final int[] NO_PASS = {LEAST, -1, 4, MOST};
    private static final String SORTS = "gsdcr";

    public static void main(String[] args) {
        newObject();
        kindNumbers();
        kindOfFewerPasses();
        asNumbers();
        asFindings();
        asIsItsNumber();
        askNumbers();
        askLeavesAll();
        askSizeEachAsOften();
        askWithoutAndWithMostWet();
        askPassNumbers();
        traceAtFirst();
        tracePlaces();
        traceOfTheLatestAsk();
        traceOfRefusedAsk();
        countNumbers();
        countNone();
        countAll();
        Checks.end();
    }

    private static PadPolish one(char sort) {
        return Checks.told("t0,0;" + sort + "0;");
    }

    // "No TABLE"
    private static void newObject() {
        PadPolish x = new PadPolish();
        Checks.due("thin()", x.thin(), PadPolish.STATE);
        Checks.due("count(1)", x.count(1), 0);
        Checks.due("two objects have two tables", Checks.told("t0,0;g0;").count(1) + x.count(1), 1);
        Checks.due("thin()", x.thin(), PadPolish.STATE);
    }

    // kind: "The KIND of a PASS, as told (1 to 5). BAD"
    private static void kindNumbers() {
        for (int i = 0; i < 5; i++) {
            Checks.due("kind of " + SORTS.charAt(i), one(SORTS.charAt(i)).kind(0), i + 1);
        }
        for (int pass : NO_PASS) {
            Twins.refused("kind(" + pass + ")", Twins::full, x -> x.kind(pass), BAD);
            Twins.refused("kind(" + pass + ") without a table", Twins::tableless, x -> x.kind(pass), BAD);
        }
        Twins.refused("kind(0) without a table", Twins::tableless, x -> x.kind(0), BAD);
        Twins.asks("kind(0)", Twins::full, x -> x.kind(0));
    }

    // "there is no such thing"
    private static void kindOfFewerPasses() {
        StringBuilder text = new StringBuilder("t0,0;");
        for (int passes = 0; passes <= 4; passes++) {
            PadPolish x = Checks.told(text.toString());
            for (int pass = 0; pass <= 4; pass++) {
                boolean is = pass < passes;
                Checks.due("kind(" + pass + ") of " + passes, x.kind(pass), is ? 1 : BAD);
                Checks.due("as(" + pass + ", 1) of " + passes, x.as(pass, 1), is ? pass : BAD);
                Checks.due("ask(" + pass + ", 1) of " + passes, x.ask(pass, 1), is ? pass : BAD);
            }
            text.append("g0;");
        }
    }

    // as: "a KIND (0 .. 5)", "BAD; KIND: it is no such one"
    private static void asNumbers() {
        for (int kind : new int[] {LEAST, -1, 6, MOST}) {
            Twins.refused("as(0, " + kind + ")", Twins::full, x -> x.as(0, kind), BAD);
        }
        for (int pass : NO_PASS) {
            Twins.refused("as(" + pass + ", 0)", Twins::full, x -> x.as(pass, 0), BAD);
            Twins.refused("as(" + pass + ", 5)", Twins::full, x -> x.as(pass, 5), BAD);
        }
        Twins.refused("as(0, 0) without a table", Twins::tableless, x -> x.as(0, 0), BAD);
        Checks.due("the first kind", one('r').as(0, 0), 0);
        Checks.due("the last kind", one('r').as(0, 5), 0);
    }

    // "KIND (a PASS that is not that)"; passes 0 to 3 are a sliding, a soaked, a clearing and a dry one
    private static void asFindings() {
        int[][] no = {{0, 2}, {0, 3}, {0, 4}, {0, 5}, {1, 3}, {1, 4}, {1, 5}, {2, 1}, {2, 2}, {2, 3}, {2, 5}, {3, 2},
            {3, 4}, {3, 5}};
        for (int[] one : no) {
            String call = "as(" + one[0] + ", " + one[1] + ")";
            Twins.found(call, Twins::full, x -> x.as(one[0], one[1]), Checks.KIND);
        }
        Checks.due("a straight one is not sliding", one('r').as(0, 1), Checks.KIND);
        Checks.due("a straight one is not soaked", one('r').as(0, 2), Checks.KIND);
        Checks.due("a straight one is not dry", one('r').as(0, 3), Checks.KIND);
    }

    // "A PASS is taken as one of a KIND: its number"
    private static void asIsItsNumber() {
        int[][] yes = {{0, 0}, {0, 1}, {1, 0}, {1, 1}, {1, 2}, {2, 0}, {2, 4}, {3, 0}, {3, 1}, {3, 3}};
        for (int[] one : yes) {
            PadPolish x = Twins.after(Twins::full);
            Checks.due("as(" + one[0] + ", " + one[1] + ")", x.as(one[0], one[1]), one[0]);
            Checks.due("status", x.status(), 0);
            Twins.unchanged("as(" + one[0] + ", " + one[1] + ")", Twins::full, y -> y.as(one[0], one[1]));
        }
        Checks.due("a straight one is clearing", one('r').as(0, 4), 0);
    }

    // ask: "An ASK (0, 1) of a PASS. BAD"
    private static void askNumbers() {
        for (int what : new int[] {LEAST, -1, 2, MOST}) {
            Twins.refused("ask(0, " + what + ")", Twins::full, x -> x.ask(0, what), BAD);
        }
        for (int pass : NO_PASS) {
            Twins.refused("ask(" + pass + ", 0)", Twins::full, x -> x.ask(pass, 0), BAD);
            Twins.refused("ask(" + pass + ", 1)", Twins::full, x -> x.ask(pass, 1), BAD);
        }
        Twins.refused("ask(0, 0) without a table", Twins::tableless, x -> x.ask(0, 0), BAD);
        Twins.refused("ask(0, 1) without a table", Twins::tableless, x -> x.ask(0, 1), BAD);
    }

    /** The past asked the same last, so that the trace is the same, too. */
    private static void askLeavesAll() {
        Twins.asks("ask(1, 0)", Twins::full, x -> x.ask(1, 0));
    }

    // "how many CELLS it goes over, each as often as it does"
    private static void askSizeEachAsOften() {
        Checks.due("one cell", Checks.told("t0,0;c0;").ask(0, 0), 1 - 100);
        Checks.due("two cells, nine times", Checks.told("t0,0;c0ewewewew;").ask(0, 0), 9 - 100);
        Checks.due("nine times, twice", Checks.told("t0,0;r0ewewewew;").ask(0, 0), 2 * (9 - 100));
    }

    private static void askWithoutAndWithMostWet() {
        int[][] due = {
            // SIZE and MARK of pass 0 over one cell at WET 0, then at WET 99
            {1, 0, 100, 99}, {-1, 0, -199, 198}, {-999, -1000, -900, -901}, {-99, 99, -99, 99}, {-198, 198, -198, 198},
        };
        for (int i = 0; i < 5; i++) {
            PadPolish x = one(SORTS.charAt(i));
            Checks.due("SIZE at 0 of " + SORTS.charAt(i), x.ask(0, 0), due[i][0]);
            Checks.due("MARK at 0 of " + SORTS.charAt(i), x.ask(0, 1), due[i][1]);
            x.charge(99, 0);
            Checks.due("SIZE at 99 of " + SORTS.charAt(i), x.ask(0, 0), due[i][2]);
            Checks.due("MARK at 99 of " + SORTS.charAt(i), x.ask(0, 1), due[i][3]);
        }
    }

    // "1 MARK: 20 lent to all PASSES: the number"
    private static void askPassNumbers() {
        for (int pass = 0; pass <= 3; pass++) {
            Checks.due("sliding " + pass, Checks.told("t0,0;g0;g0;g0;g0;").ask(pass, 1), pass);
            Checks.due("soaked " + pass, Checks.told("t0,0;s0;s0;s0;s0;").ask(pass, 1), 2 * pass);
            Checks.due("dry " + pass, Checks.told("t0,0;d0;d0;d0;d0;").ask(pass, 1), pass - 1000);
            Checks.due("clearing " + pass, Checks.told("t0,0;c0;c0;c0;c0;").ask(pass, 1), pass + 99);
            Checks.due("straight " + pass, Checks.told("t0,0;r0;r0;r0;r0;").ask(pass, 1), pass + 198);
        }
    }

    // trace: "NONE"
    private static void traceAtFirst() {
        PadPolish x = new PadPolish();
        for (int i : new int[] {LEAST, -1, 0, 1, 15, 16, MOST}) {
            Checks.due("trace(" + i + ") at first", x.trace(i), NONE);
        }
        x = Twins.after(Twins::full);
        Twins.asks("trace", Twins::full, y -> y.trace(0) + y.trace(6) + y.trace(-1));
        Checks.due("the first", x.trace(0), 12);
    }

    // "Number i of THE TRACE; NONE", "(the first 16)"
    private static void tracePlaces() {
        int[][] traces = {
            // sort, what, then what is left
            {0, 0, 11, 10, 21, 20}, {0, 1, 21, 20},
            {1, 0, 12, 11, 10, 24, 21, 20}, {1, 1, 24, 21, 20},
            {2, 0, 11, 10, 22, 21, 20}, {2, 1, 22, 21, 20},
            {3, 0, 13, 10}, {3, 1, 23, 20, 13, 10},
            {4, 0, 14, 13, 10}, {4, 1, 23, 20, 14, 13, 10},
        };
        for (int[] one : traces) {
            PadPolish x = one(SORTS.charAt(one[0]));
            x.ask(0, one[1]);
            int length = one.length - 2;
            String of = " of " + SORTS.charAt(one[0]) + ", " + one[1];
            for (int i = 0; i < length; i++) {
                Checks.due("trace(" + i + ")" + of, x.trace(i), one[2 + i]);
            }
            for (int i : new int[] {LEAST, -1, length, length + 1, 15, 16, 17, MOST}) {
                Checks.due("trace(" + i + ")" + of, x.trace(i), NONE);
            }
        }
    }

    // "THE TRACE is empty ahead of it"
    private static void traceOfTheLatestAsk() {
        PadPolish x = Checks.told("t0,0;s0;c0;");
        for (int i = 0; i < 20; i++) {
            x.ask(0, 0);
        }
        Checks.due("the last of six", x.trace(5), 20);
        Checks.due("no seventh", x.trace(6), NONE);
        x.ask(1, 0);
        Checks.due("the first of two", x.trace(0), 13);
        Checks.due("the last of two", x.trace(1), 10);
        for (int i = 2; i <= 16; i++) {
            Checks.due("trace(" + i + ")", x.trace(i), NONE);
        }
    }

    // "What is refused .. changes nothing"
    private static void traceOfRefusedAsk() {
        PadPolish x = Checks.told("t0,0;s0;");
        x.ask(0, 0);
        Checks.due("refused", (long) x.ask(1, 0) + x.ask(0, 2) + x.ask(-1, -1), 3L * BAD);
        Checks.due("the first yet", x.trace(0), 12);
        Checks.due("the last yet", x.trace(5), 20);
    }

    // count: "0 ROWS .. 6 bytes on the tape. BAD"
    private static void countNumbers() {
        for (int what : new int[] {LEAST, -1, 7, MOST}) {
            Twins.refused("count(" + what + ")", Twins::full, x -> x.count(what), BAD);
            Twins.refused("count(" + what + ") without a table", Twins::tableless, x -> x.count(what), BAD);
        }
        for (int what = 0; what <= 6; what++) {
            int asked = what;
            Twins.asks("count(" + what + ")", Twins::full, x -> x.count(asked));
        }
    }

    private static void countNone() {
        PadPolish x = new PadPolish();
        PadPolish bare = Checks.told("t0,0;");
        for (int what = 0; what <= 6; what++) {
            Checks.due("count(" + what + ") of a new object", x.count(what), 0);
            Checks.due("count(" + what + ") of a bare table", bare.count(what), 0);
        }
        int[] tableless = {4, 0, 0, 0, 0, 0, 13};
        for (int what = 0; what <= 6; what++) {
            Checks.due("count(" + what + ")", Twins.after(Twins::tableless).count(what), tableless[what]);
        }
    }

    private static void countAll() {
        PadPolish x = Checks.told("t9,0;g0eeee;g5eeee;g10eeee;c0;");
        for (int row = 0; row <= 7; row++) {
            x.row(row, 0, 0);
        }
        x.charge(99, 0);
        for (int pass = 0; pass <= 2; pass++) {
            x.make(pass);
        }
        for (int i = 4; i < 30; i++) {
            x.charge(0, 0);
        }
        for (int i = 0; i < 120; i++) {
            x.feed(0);
        }
        int[] most = {8, 4, 9, 15, 15, 24, 120};
        for (int what = 0; what <= 6; what++) {
            Checks.due("count(" + what + ") at most", x.count(what), most[what]);
        }
    }
}
