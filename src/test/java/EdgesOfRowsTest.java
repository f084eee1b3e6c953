/**
 * The edges of promises 2 to 5, and of 36 as far as rows go. Above each test stands the sentence of the document
 * that it holds to.
 */
final class EdgesOfRowsTest {
    private static final int BAD = PadPolish.BAD;
    private static final int LEAST = Integer.MIN_VALUE;
    private static final int MOST = Integer.MAX_VALUE;
    private static final int[] NO_ROW = {LEAST, -1, 8, MOST};

    public static void main(String[] args) {
        Twins.checkItemsAreSeen();
        rowNumbers();
        laneNumbers();
        rowSizes();
        rowBelowNone();
        rowBadAheadOfSize();
        rowItemsAreNoneAtFirst();
        rowInPlaceOfAnother();
        setRowNumbers();
        setMissing();
        setPlaces();
        setRefusalsInOrder();
        setWrapsBytes();
        setWrapsShorts();
        setKeepsInts();
        setOneItemOnly();
        copyRowNumbers();
        copyMissing();
        copyLanes();
        copyPlaces();
        copyRefusalsInOrder();
        copyFromEndToEnd();
        copyNone();
        copyAsTheyWereAhead();
        dropRowNumbers();
        dropMissing();
        dropEmptyAndFull();
        dropAll();
        statusAtFirst();
        statusOfEachFinding();
        statusWithoutFinding();
        statusOfRefused();
        statusOfOtherCalls();
        Checks.end();
    }

    /** A table with this FILM, no passes: done() answers 1 for 15 items that tell it. */
    private static PadPolish films(int... films) {
        return Checks.told(Checks.filmText(films));
    }

    // "ROWS 0 .. 7", "BAD: ROW"
    private static void rowNumbers() {
        PadPolish x = new PadPolish();
        for (int row = 0; row <= 7; row++) {
            Checks.due("row(" + row + ", 0, 3)", x.row(row, 0, 3), 3);
            Checks.due("rows", x.count(0), row + 1);
        }
        for (int row : NO_ROW) {
            Twins.refused("row(" + row + ", 0, 3)", Twins::full, y -> y.row(row, 0, 3), BAD);
        }
    }

    // "a LANE (0 bytes, 1 shorts, 2 ints)", "BAD: .. LANE"
    private static void laneNumbers() {
        PadPolish x = new PadPolish();
        for (int lane = 0; lane <= 2; lane++) {
            Checks.due("row(0, " + lane + ", 1)", x.row(0, lane, 1), 1);
            int[] widest = {-1, -1, 0xffffff};
            Checks.due("its lane", x.set(0, 0, 0xffffff), widest[lane]);
            Checks.due("its lane", x.set(0, 0, 0x7fff), lane == 0 ? -1 : 0x7fff);
        }
        for (int lane : new int[] {LEAST, -1, 3, MOST}) {
            Twins.refused("row(0, " + lane + ", 3)", Twins::full, y -> y.row(0, lane, 3), BAD);
            Twins.refused("row(5, " + lane + ", 3)", Twins::full, y -> y.row(5, lane, 3), BAD);
        }
    }

    // "0 to 40 ITEMS", "BAD: .. n above 40"
    private static void rowSizes() {
        PadPolish x = new PadPolish();
        for (int n = 0; n <= 40; n++) {
            Checks.due("row(3, 1, " + n + ")", x.row(3, 1, n), n);
            Checks.due("status", x.status(), 0);
            Checks.due("beyond its end", x.set(3, n, 5), Checks.PLACE);
            Checks.due("its last", x.set(3, n - 1, 5), n == 0 ? Checks.PLACE : 5);
        }
        for (int n : new int[] {41, 42, MOST}) {
            Twins.refused("row(0, 0, " + n + ")", Twins::full, y -> y.row(0, 0, n), BAD);
            Twins.refused("row(5, 0, " + n + ")", Twins::full, y -> y.row(5, 0, n), BAD);
        }
    }

    // "4 SIZE (fewer than none)"
    private static void rowBelowNone() {
        for (int n : new int[] {-1, -2, LEAST}) {
            Twins.found("row(0, 0, " + n + ")", Twins::full, y -> y.row(0, 0, n), Checks.SIZE);
            Twins.found("row(5, 2, " + n + ")", Twins::full, y -> y.row(5, 2, n), Checks.SIZE);
        }
    }

    // "Refusals are answers, the first of these that fits: BAD .. then FINDINGS"
    private static void rowBadAheadOfSize() {
        Twins.refused("row(8, 0, -1)", Twins::full, y -> y.row(8, 0, -1), BAD);
        Twins.refused("row(-1, 0, -1)", Twins::full, y -> y.row(-1, 0, -1), BAD);
        Twins.refused("row(0, 3, -1)", Twins::full, y -> y.row(0, 3, -1), BAD);
        Twins.refused("row(0, -1, -1)", Twins::full, y -> y.row(0, -1, -1), BAD);
    }

    // "ITEMS, 0 at first"
    private static void rowItemsAreNoneAtFirst() {
        PadPolish x = films();
        for (int lane = 0; lane <= 2; lane++) {
            x.row(lane, lane, 40);
            for (int from : new int[] {0, 15, 25}) {
                Checks.due("all are 0 from " + from, x.done(lane, from, 0), 1);
            }
        }
    }

    // "A ROW of a LANE with n ITEMS, in place of what is there"
    private static void rowInPlaceOfAnother() {
        PadPolish x = films();
        x.row(0, 2, 40);
        for (int i = 0; i < 40; i++) {
            x.set(0, i, 1000);
        }
        x.row(1, 0, 1);
        Checks.due("a shorter one of bytes", x.row(0, 0, 16), 16);
        Checks.due("its items are 0", x.done(0, 0, 0) + x.done(0, 1, 0), 2);
        Checks.due("its end", x.set(0, 16, 1), Checks.PLACE);
        Checks.due("its lane", x.copy(0, 0, 1, 0, 1), 1);
        Checks.due("a longer one", x.row(0, 1, 40), 40);
        Checks.due("its items are 0", x.done(0, 0, 0) + x.done(0, 15, 0) + x.done(0, 25, 0), 3);
        Checks.due("its lane", x.copy(0, 0, 1, 0, 1), Checks.STORE);
        Checks.due("rows", x.count(0), 2);
    }

    // set: "BAD: ROW"
    private static void setRowNumbers() {
        PadPolish x = Twins.after(Twins::full);
        Checks.due("set(0, 0, 9)", x.set(0, 0, 9), 9);
        x.row(7, 0, 1);
        Checks.due("set(7, 0, 9)", x.set(7, 0, 9), 9);
        for (int row : NO_ROW) {
            Twins.refused("set(" + row + ", 0, 9)", Twins::full, y -> y.set(row, 0, 9), BAD);
        }
    }

    // set: "NULL": "a ROW that is missing"
    private static void setMissing() {
        PadPolish x = new PadPolish();
        for (int row = 0; row <= 7; row++) {
            Checks.due("set(" + row + ", 0, 9) at first", x.set(row, 0, 9), Checks.NULL);
        }
        for (int row = 3; row <= 6; row++) {
            int missing = row;
            Twins.found("set(" + row + ", 0, 9)", Twins::full, y -> y.set(missing, 0, 9), Checks.NULL);
        }
    }

    // set: "PLACE": "no such place of a ROW"
    private static void setPlaces() {
        int[] lengths = {40, 15, 20};
        for (int row = 0; row <= 2; row++) {
            int one = row;
            int length = lengths[row];
            PadPolish x = Twins.after(Twins::full);
            Checks.due("the first item", x.set(row, 0, 9), 9);
            Checks.due("the last item", x.set(row, length - 1, 9), 9);
            for (int i : new int[] {LEAST, -1, length, length + 1, MOST}) {
                Twins.found("set(" + row + ", " + i + ", 9)", Twins::full, y -> y.set(one, i, 9), Checks.PLACE);
            }
        }
        for (int i : new int[] {LEAST, -1, 0, 1, MOST}) {
            Twins.found("set(7, " + i + ", 9) of none", Twins::full, y -> y.set(7, i, 9), Checks.PLACE);
        }
    }

    // set: "BAD: ROW; NULL; PLACE"
    private static void setRefusalsInOrder() {
        Twins.refused("set(8, -1, 9)", Twins::full, y -> y.set(8, -1, 9), BAD);
        Twins.found("set(3, -1, 9)", Twins::full, y -> y.set(3, -1, 9), Checks.NULL);
        Twins.found("set(3, 40, 9)", Twins::full, y -> y.set(3, 40, 9), Checks.NULL);
    }

    private static void wraps(int lane, int[][] cases) {
        PadPolish x = new PadPolish();
        x.row(0, lane, 1);
        for (int[] one : cases) {
            Checks.due("set to " + one[0] + " in lane " + lane, x.set(0, 0, one[0]), one[1]);
        }
    }

    // "ITEM i becomes v, its lowest bits, as many as the LANE has: what it is then" (8)
    private static void setWrapsBytes() {
        wraps(0, new int[][] {{0, 0}, {1, 1}, {127, 127}, {128, -128}, {129, -127}, {255, -1}, {256, 0}, {257, 1},
            {383, 127}, {384, -128}, {-1, -1}, {-128, -128}, {-129, 127}, {-256, 0}, {-257, -1}, {32767, -1},
            {32768, 0}, {65535, -1}, {MOST, -1}, {LEAST, 0}, {LEAST + 127, 127}, {LEAST + 128, -128}});
    }

    // the same (16)
    private static void setWrapsShorts() {
        wraps(1, new int[][] {{0, 0}, {127, 127}, {128, 128}, {255, 255}, {32767, 32767}, {32768, -32768},
            {65535, -1}, {65536, 0}, {65537, 1}, {98303, 32767}, {98304, -32768}, {-1, -1}, {-32768, -32768},
            {-32769, 32767}, {-65536, 0}, {-65537, -1}, {MOST, -1}, {LEAST, 0}});
    }

    // the same (32)
    private static void setKeepsInts() {
        for (int v : new int[] {0, 1, -1, 127, 128, 32767, 32768, 65535, 65536, -32769, MOST, LEAST}) {
            wraps(2, new int[][] {{v, v}});
        }
    }

    private static void setOneItemOnly() {
        PadPolish x = films(0, 0, 7);
        x.row(0, 1, 40);
        x.set(0, 25 + 2, 7);
        Checks.due("it and no other", x.done(0, 25, 0), 1);
        Checks.due("none ahead of it", x.done(0, 10, 0) + x.set(0, 27, 0) + x.done(0, 25, 0), 0);
    }

    // copy: "BAD: ROWS"
    private static void copyRowNumbers() {
        PadPolish x = new PadPolish();
        x.row(0, 1, 2);
        x.row(7, 1, 2);
        Checks.due("copy(0, 0, 7, 0, 2)", x.copy(0, 0, 7, 0, 2), 2);
        Checks.due("copy(7, 0, 0, 0, 2)", x.copy(7, 0, 0, 0, 2), 2);
        for (int row : NO_ROW) {
            Twins.refused("copy(" + row + ", 0, 0, 0, 1)", Twins::full, y -> y.copy(row, 0, 0, 0, 1), BAD);
            Twins.refused("copy(0, 0, " + row + ", 0, 1)", Twins::full, y -> y.copy(0, 0, row, 0, 1), BAD);
            Twins.refused("copy(" + row + ", 0, 3, 0, 1)", Twins::full, y -> y.copy(row, 0, 3, 0, 1), BAD);
            Twins.refused("copy(3, 0, " + row + ", 0, 1)", Twins::full, y -> y.copy(3, 0, row, 0, 1), BAD);
        }
    }

    // copy: "NULL"
    private static void copyMissing() {
        Twins.found("copy(3, 0, 0, 0, 1)", Twins::full, y -> y.copy(3, 0, 0, 0, 1), Checks.NULL);
        Twins.found("copy(0, 0, 3, 0, 1)", Twins::full, y -> y.copy(0, 0, 3, 0, 1), Checks.NULL);
        Twins.found("copy(3, 0, 3, 0, 0)", Twins::full, y -> y.copy(3, 0, 3, 0, 0), Checks.NULL);
        Twins.found("copy(3, 0, 4, 0, 0)", Twins::full, y -> y.copy(3, 0, 4, 0, 0), Checks.NULL);
    }

    // copy: "STORE": "ROWS of two LANES"
    private static void copyLanes() {
        for (int a = 0; a <= 2; a++) {
            for (int b = 0; b <= 2; b++) {
                int from = a;
                int to = b;
                String call = "copy(" + a + ", 0, " + b + ", 0, ";
                if (a == b) {
                    Checks.due(call + "1)", Twins.after(Twins::full).copy(a, 0, b, 0, 1), 1);
                } else {
                    Twins.found(call + "1)", Twins::full, y -> y.copy(from, 0, to, 0, 1), Checks.STORE);
                    Twins.found(call + "0)", Twins::full, y -> y.copy(from, 0, to, 0, 0), Checks.STORE);
                }
            }
        }
        Checks.due("two rows of bytes", Twins.after(Twins::full).copy(0, 0, 7, 0, 0), 0);
    }

    // copy: "PLACE (i, j, n below 0, or beyond an end)"
    private static void copyPlaces() {
        int[][] places = {
            {-1, 0, 1}, {-1, 0, 0}, {0, -1, 1}, {0, -1, 0}, {0, 0, -1}, {1, 1, -1}, {5, 5, -5},
            {40, 0, 1}, {41, 0, 0}, {0, 12, 1}, {0, 13, 0}, {39, 0, 2}, {0, 11, 2}, {28, 0, 13}, {0, 0, 13}, {0, 0, 41},
            {MOST, 0, 0}, {MOST, 0, 1}, {0, MOST, 0}, {0, MOST, 1}, {0, 0, MOST}, {1, 1, MOST}, {MOST, MOST, MOST},
            {LEAST, 0, 0}, {LEAST, 0, 1}, {0, LEAST, 1}, {0, 0, LEAST}, {1, 1, LEAST}, {LEAST, LEAST, LEAST},
            {LEAST, 0, LEAST}, {MOST, 0, LEAST}, {-1, -1, 2},
        };
        for (int[] at : places) {
            String call = "copy(0, " + at[0] + ", 6, " + at[1] + ", " + at[2] + ")";
            Twins.found(call, EdgesOfRowsTest::withTwelve, y -> y.copy(0, at[0], 6, at[1], at[2]), Checks.PLACE);
        }
        int[][] fitting = {{39, 11, 1}, {28, 0, 12}, {0, 0, 12}, {40, 12, 0}, {0, 12, 0}, {40, 0, 0}};
        for (int[] at : fitting) {
            String call = "copy(0, " + at[0] + ", 6, " + at[1] + ", " + at[2] + ")";
            Checks.due(call, Twins.after(EdgesOfRowsTest::withTwelve).copy(0, at[0], 6, at[1], at[2]), at[2]);
        }
    }

    /** Row 6 has 12 bytes; row 0 has 40. */
    private static void withTwelve(PadPolish x) {
        Twins.full(x);
        x.row(6, 0, 12);
    }

    // copy: "BAD: ROWS; NULL; STORE; PLACE"
    private static void copyRefusalsInOrder() {
        Twins.refused("copy(8, -1, 3, -1, -1)", Twins::full, y -> y.copy(8, -1, 3, -1, -1), BAD);
        Twins.refused("copy(3, -1, 8, -1, -1)", Twins::full, y -> y.copy(3, -1, 8, -1, -1), BAD);
        Twins.found("copy(0, -1, 3, -1, -1)", Twins::full, y -> y.copy(0, -1, 3, -1, -1), Checks.NULL);
        Twins.found("copy(3, -1, 1, -1, -1)", Twins::full, y -> y.copy(3, -1, 1, -1, -1), Checks.NULL);
        Twins.found("copy(0, -1, 1, -1, -1)", Twins::full, y -> y.copy(0, -1, 1, -1, -1), Checks.STORE);
        Twins.found("copy(0, 99, 1, 0, 1)", Twins::full, y -> y.copy(0, 99, 1, 0, 1), Checks.STORE);
    }

    // "n ITEMS of a from i on come to b from j on: n"
    private static void copyFromEndToEnd() {
        PadPolish x = films(26, 27, 28, 29, 30, 31, 32, 33, 34, 35, 36, 37, 38, 39, 40);
        x.row(0, 0, 40);
        x.row(1, 0, 40);
        x.row(2, 0, 15);
        for (int i = 0; i < 40; i++) {
            x.set(0, i, i + 1);
        }
        Checks.due("all forty", x.copy(0, 0, 1, 0, 40), 40);
        Checks.due("all forty came", x.done(1, 25, 0), 1);
        Checks.due("the last fifteen", x.copy(0, 25, 2, 0, 15), 15);
        Checks.due("the last fifteen came", x.done(2, 0, 0), 1);
        Checks.due("one", x.copy(0, 0, 2, 14, 1), 1);
        Checks.due("one came", x.done(2, 0, 0), 0);
        Checks.due("one", x.copy(0, 39, 2, 14, 1), 1);
        Checks.due("one came", x.done(2, 0, 0), 1);
        Checks.due("they are in their row yet", x.done(0, 25, 0), 1);
    }

    // the same, n = 0
    private static void copyNone() {
        PadPolish x = new PadPolish();
        x.row(0, 2, 0);
        x.row(1, 2, 0);
        Checks.due("none of none", x.copy(0, 0, 1, 0, 0), 0);
        Checks.due("none of itself", x.copy(0, 0, 0, 0, 0), 0);
        Checks.due("one of none", x.copy(0, 0, 1, 0, 1), Checks.PLACE);
        Checks.due("behind none", x.copy(0, 1, 1, 0, 0), Checks.PLACE);
        Twins.asks("copy(0, 40, 0, 0, 0)", EdgesOfRowsTest::withoutFinding, y -> y.copy(0, 40, 0, 0, 0));
    }

    private static void withoutFinding(PadPolish x) {
        Twins.full(x);
        x.row(6, 0, 0);
    }

    // "as they were ahead"
    private static void copyAsTheyWereAhead() {
        for (int shift : new int[] {1, 2, 14, 15}) {
            PadPolish x = films(1, 2, 3, 4, 5, 6, 7, 8, 9, 10, 11, 12, 13, 14, 15);
            x.row(0, 1, 40);
            for (int i = 0; i < 15; i++) {
                x.set(0, i, i + 1);
            }
            Checks.due("forth by " + shift, x.copy(0, 0, 0, shift, 15), 15);
            Checks.due("forth by " + shift + " came", x.done(0, shift, 0), 1);
            Checks.due("back by " + shift, x.copy(0, shift, 0, 0, 15), 15);
            Checks.due("back by " + shift + " came", x.done(0, 0, 0), 1);
        }
    }

    // drop: "BAD"
    private static void dropRowNumbers() {
        PadPolish x = new PadPolish();
        x.row(0, 0, 3);
        x.row(7, 0, 4);
        Checks.due("drop(0)", x.drop(0), 3);
        Checks.due("drop(7)", x.drop(7), 4);
        for (int row : NO_ROW) {
            Twins.refused("drop(" + row + ")", Twins::full, y -> y.drop(row), BAD);
        }
    }

    // drop: "NULL"; "ROWS 0 .. 7 are missing (at first)"
    private static void dropMissing() {
        PadPolish x = new PadPolish();
        for (int row = 0; row <= 7; row++) {
            Checks.due("drop(" + row + ") at first", x.drop(row), Checks.NULL);
        }
        for (int row = 3; row <= 6; row++) {
            int missing = row;
            Twins.found("drop(" + row + ")", Twins::full, y -> y.drop(missing), Checks.NULL);
        }
    }

    // "A ROW is missing from now on: how many ITEMS it had"
    private static void dropEmptyAndFull() {
        PadPolish x = new PadPolish();
        for (int n : new int[] {0, 1, 39, 40}) {
            x.row(2, 1, n);
            Checks.due("drop of " + n, x.drop(2), n);
            Checks.due("status", x.status(), 0);
            Checks.due("missing to drop", x.drop(2), Checks.NULL);
            Checks.due("missing to set", x.set(2, 0, 0), Checks.NULL);
            Checks.due("missing to copy", x.copy(2, 0, 2, 0, 0), Checks.NULL);
            Checks.due("missing to count", x.count(0), 0);
        }
        Checks.tell(x, "t0,0;");
        Checks.due("missing to done", x.done(2, 0, 0), Checks.NULL);
    }

    // "How many: 0 ROWS"
    private static void dropAll() {
        PadPolish x = new PadPolish();
        for (int row = 0; row <= 7; row++) {
            x.row(row, row % 3, row);
        }
        Checks.due("all eight", x.count(0), 8);
        for (int row = 0; row <= 7; row++) {
            Checks.due("drop(" + row + ")", x.drop(row), row);
            Checks.due("rows yet", x.count(0), 7 - row);
        }
    }

    // status: "0: .. there was none"
    private static void statusAtFirst() {
        Checks.due("status() of a new object", new PadPolish().status(), 0);
    }

    // "Of the latest call with a ROW, or as(): the number of its FINDING"; "1 NULL .. 5 STORE"
    private static void statusOfEachFinding() {
        PadPolish x = Checks.told("t0,0;g0;");
        x.row(0, 0, 1);
        x.row(1, 1, 1);
        Checks.due("-1000010 less 1", x.set(2, 0, 0), -1000011);
        Checks.due("status", x.status(), 1);
        Checks.due("-1000010 less 2", x.set(0, 1, 0), -1000012);
        Checks.due("status", x.status(), 2);
        Checks.due("-1000010 less 3", x.as(0, 4), -1000013);
        Checks.due("status", x.status(), 3);
        Checks.due("-1000010 less 4", x.row(0, 0, -1), -1000014);
        Checks.due("status", x.status(), 4);
        Checks.due("-1000010 less 5", x.copy(0, 0, 1, 0, 1), -1000015);
        Checks.due("status", x.status(), 5);
        Checks.due("status() leaves it", x.status(), 5);
    }

    // "0: it had none"
    private static void statusWithoutFinding() {
        PadPolish x = Checks.told("t0,0;g0;");
        x.row(0, 0, 15);
        x.drop(1);
        Checks.due("NULL, then row()", x.status() * 10 + x.row(1, 0, 0) + x.status(), 10);
        x.drop(2);
        Checks.due("NULL, then set()", x.status() * 10 + x.set(0, 0, 0) + x.status(), 10);
        x.drop(2);
        Checks.due("NULL, then copy()", x.status() * 10 + x.copy(0, 0, 1, 0, 0) + x.status(), 10);
        x.drop(2);
        Checks.due("NULL, then drop()", x.status() * 10 + x.drop(1) + x.status(), 10);
        x.drop(2);
        Checks.due("NULL, then done()", x.status() * 10 + x.done(0, 0, 1) + x.status(), 10);
        x.drop(2);
        Checks.due("NULL, then as()", x.status() * 10 + x.as(0, 0) + x.status(), 10);
        x.drop(2);
        x.set(0, 0, 9);
        x.drop(2);
        Checks.due("NONE is no finding", x.done(0, 0, 1), PadPolish.NONE);
        Checks.due("status", x.status(), 0);
    }

    // "that was not BAD, STATE, FULL"
    private static void statusOfRefused() {
        PadPolish x = new PadPolish();
        x.drop(2);
        Checks.due("BAD of row, set, copy, drop", (long) x.row(8, 0, 0) + x.set(8, 0, 0) + x.copy(8, 0, 0, 0, 0)
            + x.drop(8), 4L * BAD);
        Checks.due("status", x.status(), 1);
        Checks.due("STATE of done", x.done(2, 0, 0), PadPolish.STATE);
        Checks.due("BAD of as", x.as(0, 0), BAD);
        Checks.due("status", x.status(), 1);
        x.row(2, 0, 15);
        Checks.due("STATE of done", x.done(2, 99, 0), PadPolish.STATE);
        Checks.due("status", x.status(), 0);
        x.drop(3);
        Checks.tell(x, "t0,0;g0;");
        Checks.due("BAD of done", (long) x.done(8, 0, 0) + x.done(2, 0, 2), 2L * BAD);
        Checks.due("BAD of as", (long) x.as(1, 0) + x.as(0, 6), 2L * BAD);
        Checks.due("status", x.status(), 1);
    }

    private static void statusOfOtherCalls() {
        PadPolish x = Checks.told("t1,1;g0;");
        x.row(0, 0, -1);
        x.charge(5, 5);
        x.make(0);
        x.stand(0);
        x.rest();
        x.undo();
        x.image(0);
        x.restore(0);
        x.ask(0, 0);
        x.kind(0);
        x.count(0);
        for (int n = 0; n < 121; n++) {
            x.feed('t');
        }
        x.table();
        Checks.due("the status stays", x.status(), 4);
    }
}
