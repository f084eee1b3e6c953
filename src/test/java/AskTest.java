/** Promises 31 to 34, and 36 as far as as() goes: kinds, asks, the trace. */
final class AskTest {
    private static final int[] NO_PASS = {Integer.MIN_VALUE, -1, 4, Integer.MAX_VALUE};

    public static void main(String[] args) {
        kinds();
        taking();
        asking();
        tracing();
        Checks.end();
    }

    private static void kinds() {
        PadPolish x = Checks.told("t0,0;g0;s0;d0;c0;");
        for (int one = 0; one < 4; one++) {
            Checks.due("kind(" + one + ")", x.kind(one), one + 1);
        }
        Checks.due("kind of a straight one", Checks.told("t0,0;r0;").kind(0), 5);
        for (int one : NO_PASS) {
            Checks.due("kind(" + one + ")", x.kind(one), PadPolish.BAD);
        }
    }

    private static void taking() {
        boolean[][] is = {
            // of kinds 0 to 5
            {true, true, false, false, false, false},
            {true, true, true, false, false, false},
            {true, true, false, true, false, false},
            {true, false, false, false, true, false},
            {true, false, false, false, true, true},
        };
        for (int sort = 0; sort < 5; sort++) {
            PadPolish x = Checks.told("t0,0;g0;g0;" + "gsdcr".charAt(sort) + "3;");
            for (int kind = 0; kind < 6; kind++) {
                String call = "as(2, " + kind + ") of sort " + sort;
                Checks.due(call, x.as(2, kind), is[sort][kind] ? 2 : Checks.KIND);
                Checks.due("status of " + call, x.status(), is[sort][kind] ? 0 : 3);
            }
            Checks.due("KIND", x.as(0, 4), Checks.KIND);
            for (int wrong : new int[] {Integer.MIN_VALUE, -1, 6, Integer.MAX_VALUE}) {
                Checks.due("as(0, " + wrong + ")", x.as(0, wrong), PadPolish.BAD);
                Checks.due("as(" + wrong + ", 0)", x.as(wrong, 0), PadPolish.BAD);
            }
            Checks.due("BAD leaves the status", x.status(), 3);
            Checks.due("a row", x.row(0, 0, 1), 1);
            Checks.due("wipes it", x.status(), 0);
        }
    }

    private static void asked(PadPolish x, int one, int what, int answer, int... bodies) {
        String call = "ask(" + one + ", " + what + ")";
        Checks.due(call, x.ask(one, what), answer);
        for (int i = 0; i < 16; i++) {
            Checks.due(call + ": trace(" + i + ")", x.trace(i), i < bodies.length ? bodies[i] : PadPolish.NONE);
        }
    }

    private static void asking() {
        PadPolish x = Checks.told("t0,0;g0;s0ewe;d0e;c0ee;");
        x.charge(30, 0);
        asked(x, 0, 0, 1 + 30, 11, 10, 21, 20);
        asked(x, 0, 1, 30, 21, 20);
        asked(x, 1, 0, -(4 + 62), 12, 11, 10, 24, 21, 20);
        asked(x, 1, 1, 62, 24, 21, 20);
        asked(x, 2, 0, 2 + 32 - 1000, 11, 10, 22, 21, 20);
        asked(x, 2, 1, 32 - 1000, 22, 21, 20);
        asked(x, 3, 0, 3 - 100, 13, 10);
        asked(x, 3, 1, 3 - (3 - 100), 23, 20, 13, 10);
        x = Checks.told("t0,0;g0;r0ee;");
        asked(x, 1, 0, 2 * (3 - 100), 14, 13, 10);
        asked(x, 1, 1, 1 - 2 * (3 - 100), 23, 20, 14, 13, 10);
    }

    private static void tracing() {
        PadPolish x = Checks.told("t0,0;g0;s0ewe;d0e;c0ee;");
        Checks.due("nothing asked", x.trace(0), PadPolish.NONE);
        x.ask(3, 0);
        for (int one : NO_PASS) {
            Checks.due("ask(" + one + ", 0)", x.ask(one, 0), PadPolish.BAD);
        }
        Checks.due("ask(0, 2)", x.ask(0, 2), PadPolish.BAD);
        Checks.due("ask(0, -1)", x.ask(0, -1), PadPolish.BAD);
        Checks.due("what is refused leaves the trace", x.trace(0), 13);
        Checks.due("what is refused leaves the trace", x.trace(1), 10);
        for (int i : new int[] {Integer.MIN_VALUE, -1, 2, 15, 16, Integer.MAX_VALUE}) {
            Checks.due("trace(" + i + ")", x.trace(i), PadPolish.NONE);
        }
    }
}
