/** Promises 2 to 5 (rows), and 36 (status) as far as rows go. */
final class RowsTest {
    private static final int[] NO_ROW = {Integer.MIN_VALUE, -1, 8, Integer.MAX_VALUE};

    public static void main(String[] args) {
        making();
        setting();
        copying();
        copyingWithin();
        dropping();
        orderOfRefusals();
        Checks.end();
    }

    private static void making() {
        PadPolish x = new PadPolish();
        for (int lane = 0; lane < 3; lane++) {
            Checks.due("row of none", x.row(lane, lane, 0), 0);
            Checks.due("row of one", x.row(lane, lane, 1), 1);
            Checks.due("row of forty", x.row(lane, lane, 40), 40);
        }
        Checks.due("three rows", x.count(0), 3);
        Checks.due("the last row", x.row(7, 2, 5), 5);
        Checks.due("four rows", x.count(0), 4);
        for (int row : NO_ROW) {
            Checks.due("row(" + row + ", 0, 1)", x.row(row, 0, 1), PadPolish.BAD);
        }
        for (int lane : new int[] {Integer.MIN_VALUE, -1, 3, Integer.MAX_VALUE}) {
            Checks.due("row(0, " + lane + ", 1)", x.row(0, lane, 1), PadPolish.BAD);
        }
        Checks.due("row of 41", x.row(0, 0, 41), PadPolish.BAD);
        Checks.due("row of very many", x.row(0, 0, Integer.MAX_VALUE), PadPolish.BAD);
        Checks.due("row of -1", x.row(0, 0, -1), Checks.SIZE);
        Checks.due("status of it", x.status(), 4);
        Checks.due("row of very few", x.row(0, 0, Integer.MIN_VALUE), Checks.SIZE);
        Checks.due("a refused row leaves the old one", x.drop(0), 40);
        Checks.due("a row in place of another", x.row(7, 0, 3), 3);
        Checks.due("it has its own length", x.set(7, 4, 1), Checks.PLACE);
        Checks.due("and its own lane", x.set(7, 0, 300), 44);
    }

    private static void setting() {
        PadPolish x = new PadPolish();
        x.row(0, 0, 2);
        x.row(1, 1, 2);
        x.row(2, 2, 2);
        int[][] cases = {
            // v, as a byte, as a short
            {0, 0, 0}, {127, 127, 127}, {128, -128, 128}, {200, -56, 200}, {255, -1, 255}, {256, 0, 256},
            {32767, -1, 32767}, {32768, 0, -32768}, {65535, -1, -1}, {65536, 0, 0}, {-1, -1, -1}, {-129, 127, -129},
            {-32769, -1, 32767}, {Integer.MAX_VALUE, -1, -1}, {Integer.MIN_VALUE, 0, 0},
        };
        for (int[] one : cases) {
            Checks.due("set a byte to " + one[0], x.set(0, 1, one[0]), one[1]);
            Checks.due("set a short to " + one[0], x.set(1, 1, one[0]), one[2]);
            Checks.due("set an int to " + one[0], x.set(2, 1, one[0]), one[0]);
        }
        for (int row : NO_ROW) {
            Checks.due("set(" + row + ", 0, 0)", x.set(row, 0, 0), PadPolish.BAD);
        }
        Checks.due("set of a missing row", x.set(3, 0, 0), Checks.NULL);
        Checks.due("its status", x.status(), 1);
        for (int i : new int[] {Integer.MIN_VALUE, -1, 2, 40, Integer.MAX_VALUE}) {
            Checks.due("set at " + i, x.set(0, i, 0), Checks.PLACE);
            Checks.due("its status", x.status(), 2);
        }
        Checks.due("set", x.set(0, 0, 1), 1);
        Checks.due("its status", x.status(), 0);
    }

    /** No call reads an item, but on a table without passes done() answers 1 where 15 items tell its FILM. */
    private static int tellsFilm(PadPolish x, int row, int i) {
        return x.done(row, i, 0);
    }

    private static PadPolish films(String... cells) {
        StringBuilder text = new StringBuilder("t0,0;");
        for (String cell : cells) {
            text.append('f').append(cell).append(';');
        }
        return Checks.told(text.toString());
    }

    private static void copying() {
        PadPolish x = films("0,1", "1,2", "14,9");
        x.row(0, 2, 20);
        x.row(1, 2, 16);
        x.set(0, 5, 1);
        x.set(0, 6, 2);
        x.set(0, 19, 9);
        Checks.due("the row told", tellsFilm(x, 0, 5), 1);
        Checks.due("the row told elsewhere", tellsFilm(x, 0, 4), 0);
        Checks.due("copy all of it", x.copy(0, 5, 1, 1, 15), 15);
        Checks.due("the copy told", tellsFilm(x, 1, 1), 1);
        Checks.due("the old told yet", tellsFilm(x, 0, 5), 1);
        Checks.due("copy none at the ends", x.copy(0, 20, 1, 16, 0), 0);
        Checks.due("copy up to both ends", x.copy(0, 19, 1, 15, 1), 1);
        int[][] places = {
            {-1, 0, 1}, {0, -1, 1}, {0, 0, -1}, {20, 0, 1}, {0, 16, 1}, {5, 2, 15}, {6, 1, 15}, {21, 0, 0}, {0, 17, 0},
            {Integer.MAX_VALUE, 0, 1}, {0, Integer.MAX_VALUE, 1}, {1, 1, Integer.MAX_VALUE},
            {Integer.MIN_VALUE, 0, 1}, {0, Integer.MIN_VALUE, 1}, {0, 0, Integer.MIN_VALUE},
            {Integer.MAX_VALUE, Integer.MAX_VALUE, Integer.MAX_VALUE},
        };
        for (int[] at : places) {
            String call = "copy(0, " + at[0] + ", 1, " + at[1] + ", " + at[2] + ")";
            Checks.due(call, x.copy(0, at[0], 1, at[1], at[2]), Checks.PLACE);
            Checks.due("its status", x.status(), 2);
        }
        Checks.due("all is as it was", tellsFilm(x, 1, 1), 1);
        Checks.due("and found nothing", x.status(), 0);
        Checks.due("copy bytes", x.row(2, 0, 3) + x.row(3, 0, 3) + x.copy(2, 0, 3, 0, 3), 9);
        Checks.due("copy shorts", x.row(2, 1, 3) + x.row(3, 1, 3) + x.copy(2, 0, 3, 0, 3), 9);
    }

    private static void copyingWithin() {
        PadPolish x = films("0,1", "1,2", "2,3", "3,4");
        x.row(0, 1, 40);
        for (int i = 0; i < 4; i++) {
            x.set(0, 10 + i, i + 1);
        }
        Checks.due("copy forth over itself", x.copy(0, 10, 0, 12, 15), 15);
        Checks.due("as it was ahead", tellsFilm(x, 0, 12), 1);
        Checks.due("copy back over itself", x.copy(0, 12, 0, 11, 15), 15);
        Checks.due("as it was ahead", tellsFilm(x, 0, 11), 1);
        Checks.due("copy onto itself", x.copy(0, 11, 0, 11, 29), 29);
        Checks.due("as it was ahead", tellsFilm(x, 0, 11), 1);
    }

    private static void dropping() {
        PadPolish x = films("3,1");
        x.row(4, 1, 17);
        x.set(4, 3, 1);
        Checks.due("told", tellsFilm(x, 4, 0), 1);
        Checks.due("drop", x.drop(4), 17);
        Checks.due("no rows", x.count(0), 0);
        Checks.due("drop again", x.drop(4), Checks.NULL);
        Checks.due("its status", x.status(), 1);
        Checks.due("a row of none is there", x.row(4, 1, 0), 0);
        Checks.due("one row", x.count(0), 1);
        Checks.due("drop it", x.drop(4), 0);
        Checks.due("its status", x.status(), 0);
        for (int row : NO_ROW) {
            Checks.due("drop(" + row + ")", x.drop(row), PadPolish.BAD);
        }
        x.row(4, 1, 17);
        Checks.due("a new row is empty of old items", tellsFilm(x, 4, 0), 0);
        x.set(4, 3, 1);
        x.row(4, 1, 17);
        Checks.due("a row made anew is so too", tellsFilm(x, 4, 0), 0);
    }

    private static void orderOfRefusals() {
        PadPolish x = new PadPolish();
        Checks.due("BAD ahead of SIZE (row)", x.row(8, 0, -1), PadPolish.BAD);
        Checks.due("BAD ahead of SIZE (lane)", x.row(0, 3, -1), PadPolish.BAD);
        Checks.due("BAD ahead of NULL", x.copy(0, 0, 8, 0, 0), PadPolish.BAD);
        Checks.due("BAD ahead of NULL", x.copy(-1, 0, 0, 0, 0), PadPolish.BAD);
        Checks.due("nothing was found", x.status(), 0);
        Checks.due("NULL ahead of PLACE", x.set(0, -1, 0), Checks.NULL);
        x.row(0, 0, 3);
        Checks.due("NULL ahead of STORE and PLACE", x.copy(0, -1, 1, 0, 9), Checks.NULL);
        Checks.due("NULL ahead of STORE and PLACE", x.copy(1, -1, 0, 0, 9), Checks.NULL);
        x.row(1, 1, 3);
        Checks.due("STORE ahead of PLACE", x.copy(0, -1, 1, 0, 9), Checks.STORE);
        Checks.due("STORE of none", x.copy(0, 0, 1, 0, 0), Checks.STORE);
        Checks.due("its status", x.status(), 5);
        Checks.due("BAD", x.set(8, 0, 0), PadPolish.BAD);
        Checks.due("leaves the status", x.status(), 5);
        Checks.due("STATE", x.done(0, 0, 0), PadPolish.STATE);
        Checks.due("leaves the status", x.status(), 5);
        Checks.due("calls without a row leave it", x.count(0) + x.feed('t') + x.fault(), 3);
        Checks.due("leaves the status", x.status(), 5);
        Checks.due("a row", x.row(0, 0, 3), 3);
        Checks.due("wipes the status", x.status(), 0);
    }
}
