import java.util.function.ToLongFunction;

/**
 * The edges of promises 17 to 30: which numbers are taken, where NONE is answered, what is answered without passes,
 * and that nothing changes. Above each test stands the sentence of the document that it holds to.
 */
final class EdgesOfForetoldTest {
    private static final int NONE = PadPolish.NONE;
    private static final int BAD = PadPolish.BAD;
    private static final int STATE = PadPolish.STATE;
    private static final int LEAST = Integer.MIN_VALUE;
    private static final int MOST = Integer.MAX_VALUE;
    private static final int[] NO_CELL = {LEAST, -1, 15, MOST};
    private static final int[] NO_ROUNDS = {LEAST, -1, 21, MOST};
    private static final int[] NEITHER = {LEAST, -1, 2, MOST};
    private static final int[] NO_CELLS = {LEAST, -1, 32768, MOST};

    public static void main(String[] args) {
        aheadNumbers();
        aheadRounds();
        aheadWithoutPasses();
        unevenNumbers();
        unevenLeastAndMost();
        orderNumbers();
        orderOfFewerPasses();
        orderFirstOfSeveral();
        enoughNumbers();
        enoughRounds();
        enoughExactly();
        enoughCellsGoneOver();
        wetForNumbers();
        wetForLeastAndMost();
        wetForExactly();
        wetForFilmAtMost();
        overNumbers();
        overFewestAndLeast();
        overNone();
        goOnState();
        goOnBelowNone();
        doneNumbers();
        donePlaces();
        doneRefusalsInOrder();
        doneNone();
        doneAllSets();
        doneLanes();
        cupsNumbers();
        cupsLack();
        thinState();
        thinOneAndAll();
        dustNumbers();
        dustLowestTerms();
        dustCertain();
        eveningsNumbers();
        eveningsDraws();
        eveningsWithoutPasses();
        eveningsOfOnePass();
        imageNumbers();
        imageInPlaceOfAnother();
        restoreNumbers();
        restoreOfOneKept();
        restoreBringsAllBack();
        nothingChanges();
        Checks.end();
    }

    /** It is BAD with a table, and STATE without one, which goes ahead. */
    private static void badBehindState(String call, ToLongFunction<PadPolish> asked) {
        Twins.refused(call, Twins::full, asked, BAD);
        Twins.refused(call + " without a table", Twins::tableless, asked, STATE);
    }

    private static PadPolish charged(int wet, String text) {
        PadPolish x = Checks.told(text);
        x.charge(wet, 0);
        return x;
    }

    // ahead: "n times over (0 to 20)", "FILM of a CELL (what = 0), HAZE (1). BAD; STATE: no TABLE (ahead of BAD)"
    private static void aheadNumbers() {
        for (int n : NO_ROUNDS) {
            badBehindState("ahead(" + n + ", 0, 0)", x -> x.ahead(n, 0, 0));
        }
        for (int cell : NO_CELL) {
            badBehindState("ahead(1, " + cell + ", 0)", x -> x.ahead(1, cell, 0));
        }
        for (int what : NEITHER) {
            badBehindState("ahead(1, 0, " + what + ")", x -> x.ahead(1, 0, what));
        }
        Twins.refused("ahead(0, 0, 0) without a table", Twins::tableless, x -> x.ahead(0, 0, 0), STATE);
        PadPolish x = charged(99, "t0,4;f0,3;g0;c14;");
        Checks.due("ahead(0, 0, 0)", x.ahead(0, 0, 0), 3);
        Checks.due("ahead(0, 0, 1)", x.ahead(0, 0, 1), 0);
        Checks.due("ahead(1, 0, 0)", x.ahead(1, 0, 0), 27);
        Checks.due("ahead(1, 0, 1)", x.ahead(1, 0, 1), 1);
        Checks.due("ahead(1, 14, 0)", x.ahead(1, 14, 0), 0);
    }

    // "when PASS after PASS of all (in order) has been made n times over (0 to 20)"
    private static void aheadRounds() {
        PadPolish x = charged(99, "t0,4;f0,3;g0;");
        int film = 3;
        for (int n = 0; n <= 20; n++) {
            Checks.due("film behind " + n, x.ahead(n, 0, 0), film);
            Checks.due("haze behind " + n, x.ahead(n, 0, 1), n);
            film += (99 - n) / 4;
        }
        // Laid, then taken up; the other way round all would be left.
        x = charged(9, "t0,0;f0,3;g0;s0;");
        Checks.due("in order", x.ahead(1, 0, 0), 3 + 2 - 1 + 4);
        x = charged(9, "t0,0;f0,3;s0;g0;");
        Checks.due("in order", x.ahead(1, 0, 0), 3 + 4 + 2);
    }

    private static void aheadWithoutPasses() {
        PadPolish x = Checks.told("t9,9;f2,8;");
        for (int n : new int[] {0, 1, 20}) {
            Checks.due("film", x.ahead(n, 2, 0), 8);
            Checks.due("haze", x.ahead(n, 2, 1), 0);
            Checks.due("uneven", x.uneven(n), 8);
        }
    }

    // uneven: "BAD; STATE: no TABLE (ahead of BAD)"
    private static void unevenNumbers() {
        for (int n : NO_ROUNDS) {
            badBehindState("uneven(" + n + ")", x -> x.uneven(n));
        }
        Twins.refused("uneven(0) without a table", Twins::tableless, x -> x.uneven(0), STATE);
        PadPolish x = charged(99, "t0,0;f0,3;g0;");
        int film = 3;
        for (int n = 0; n <= 20; n++) {
            Checks.due("uneven(" + n + ")", x.uneven(n), film);
            film += (99 - n) / 4;
        }
    }

    // "UNEVEN: by how much the thickest CELL is above the thinnest"
    private static void unevenLeastAndMost() {
        Checks.due("no film", Checks.told("t0,0;").uneven(0), 0);
        int[] films = new int[15];
        java.util.Arrays.fill(films, 7);
        Checks.due("all alike", Checks.told(Checks.filmText(films)).uneven(0), 0);
        for (int cell = 0; cell <= 14; cell++) {
            films[cell] = 5;
            Checks.due("cell " + cell + " is thinner", Checks.told(Checks.filmText(films)).uneven(0), 2);
            films[cell] = 9;
            Checks.due("cell " + cell + " is thicker", Checks.told(Checks.filmText(films)).uneven(0), 2);
            films[cell] = 7;
        }
        PadPolish x = Checks.told("t0,0;f0,99;g0;g0;");
        for (int i = 0; i < 40; i++) {
            x.charge(99, 0);
            x.make(0);
        }
        Checks.due("999 above none", x.uneven(0), 999);
        Checks.due("999 above none", x.uneven(20), 999);
        Checks.due("999 above none in each order", x.order(-1), 999);
        Checks.due("the first order", x.order(0) * 10 + x.order(1), 1);
    }

    // order: "how much (k = -1), the k-th PASS (0 on; NONE). BAD: k not -1 to 3; STATE: no TABLE (ahead of BAD)"
    private static void orderNumbers() {
        for (int k : new int[] {LEAST, -2, 4, MOST}) {
            badBehindState("order(" + k + ")", x -> x.order(k));
        }
        for (int k = -1; k <= 3; k++) {
            int one = k;
            Twins.refused("order(" + k + ") without a table", Twins::tableless, x -> x.order(one), STATE);
        }
        PadPolish x = Twins.after(Twins::full);
        int passes = 0;
        for (int k = 0; k <= 3; k++) {
            passes |= 1 << x.order(k);
        }
        Checks.due("each pass once", passes, 15);
    }

    // the same: "(0 on; NONE)"
    private static void orderOfFewerPasses() {
        StringBuilder text = new StringBuilder("t0,0;f3,9;");
        for (int passes = 0; passes <= 4; passes++) {
            PadPolish x = Checks.told(text.toString());
            Checks.due("how uneven with " + passes, x.order(-1), 9);
            for (int k = 0; k <= 3; k++) {
                Checks.due("order(" + k + ") of " + passes, x.order(k), k < passes ? k : NONE);
            }
            text.append("g7;");
        }
    }

    // "that by which it is least UNEVEN, of several the first (by numbers)"
    private static void orderFirstOfSeveral() {
        PadPolish x = charged(4, "t0,0;f0,9;g0;g1;g2;g3;");
        // Only the first pass lays: cell 0 would be thicker by it, the others are alike.
        Checks.due("how much", x.order(-1), 9);
        int[] due = {1, 0, 2, 3};
        for (int k = 0; k <= 3; k++) {
            Checks.due("order(" + k + ")", x.order(k), due[k]);
        }
    }

    // enough: "for t (1 to 999)", "BAD; STATE: no TABLE (ahead of BAD)"
    private static void enoughNumbers() {
        for (int t : new int[] {LEAST, -1, 0, 1000, MOST}) {
            badBehindState("enough(" + t + ")", x -> x.enough(t));
        }
        Twins.refused("enough(1) without a table", Twins::tableless, x -> x.enough(1), STATE);
        PadPolish x = Checks.told("t0,0;f0,1;g0;");
        Checks.due("enough(1)", x.enough(1), 0);
        Checks.due("enough(2)", x.enough(2), NONE);
        Checks.due("enough(999)", x.enough(999), NONE);
        Checks.due("enough(999) without passes", Checks.told("t0,0;").enough(999), 0);
        x = Checks.told("t0,0;f0,87;g0;");
        for (int i = 0; i < 38; i++) {
            x.charge(99, 0);
            x.make(0);
        }
        Checks.due("enough(999) of 999", x.enough(999), 0);
    }

    // "how many times over (0 to 40)", "NONE"
    private static void enoughRounds() {
        PadPolish x = charged(99, "t0,0;g0;");
        int film = 0;
        for (int rounds = 1; rounds <= 42; rounds++) {
            film += (100 - rounds) / 4;
            Checks.due("till " + film, x.enough(film), rounds <= 40 ? rounds : NONE);
        }
    }

    // "till all CELLS .. have FILM of t or more"
    private static void enoughExactly() {
        PadPolish x = charged(99, "t0,0;f0,6;f1,5;g0e;");
        Checks.due("t - 1 lacks", x.enough(4), 0);
        Checks.due("t", x.enough(5), 0);
        Checks.due("one cell lacks 1", x.enough(6), 1);
        Checks.due("just t", x.enough(29), 1);
        Checks.due("one cell lacks 1 behind the first", x.enough(30), 2);
        // It is enough in between, and no more behind that.
        x = Checks.told("t0,0;f0,3;d0;");
        Checks.due("now", x.enough(3), 0);
        Checks.due("less from now on", x.enough(4), NONE);
        x = charged(8, "t0,0;f0,3;g0;d0;d0;d0;");
        Checks.due("behind one round", x.enough(5), 1);
    }

    // "all CELLS that PASSES go over"
    private static void enoughCellsGoneOver() {
        PadPolish x = Checks.told("t0,0;f0,9;f14,9;g0;c14;");
        Checks.due("others have none", x.enough(9), 0);
        Checks.due("these lack", x.enough(10), NONE);
        x = Checks.told("t0,0;f0,9;g0;c14;");
        Checks.due("one lacks, over which a clearing one goes", x.enough(9), NONE);
    }

    // wetFor: "t (0 to 99)", "BAD"
    private static void wetForNumbers() {
        for (int t : new int[] {LEAST, -1, 100, MOST}) {
            Twins.refused("wetFor(0, " + t + ")", Twins::full, x -> x.wetFor(0, t), BAD);
        }
        for (int pass : new int[] {LEAST, -1, 4, MOST}) {
            Twins.refused("wetFor(" + pass + ", 0)", Twins::full, x -> x.wetFor(pass, 0), BAD);
        }
        Twins.refused("wetFor(0, 0) without a table", Twins::tableless, x -> x.wetFor(0, 0), BAD);
        Checks.due("wetFor(0, 0) without passes", Checks.told("t0,0;").wetFor(0, 0), BAD);
        PadPolish x = Checks.told("t0,0;g0;g1;g2;");
        Checks.due("wetFor(2, 0)", x.wetFor(2, 0), 0);
        Checks.due("wetFor(3, 0) of three", x.wetFor(3, 0), BAD);
        Checks.due("wetFor(0, 99)", x.wetFor(0, 99), NONE);
    }

    // "the least WET (0 to 99) the pad is to have"
    private static void wetForLeastAndMost() {
        PadPolish x = Checks.told("t0,0;g0eee;g0eeee;g0;");
        Checks.due("none", x.wetFor(0, 0), 0);
        Checks.due("96 on the last of four", x.wetFor(0, 24), 99);
        Checks.due("96 on the last of five", x.wetFor(1, 24), NONE);
        for (int t = 1; t <= 24; t++) {
            Checks.due("4 times " + t, x.wetFor(2, t), 4 * t);
        }
        Checks.due("4 times 25", x.wetFor(2, 25), NONE);
    }

    // "(in place of its own), so that each CELL of it has t more than now, or more, behind it"
    private static void wetForExactly() {
        PadPolish x = charged(99, "t0,0;f0,50;g0e;g0ewe;c1;");
        Checks.due("own wet does not count", x.wetFor(0, 1), 5);
        Checks.due("each cell twice", x.wetFor(1, 2), 7);
        Checks.due("cell 0 at 9 and 7, cell 1 at 8 and 6", x.wetFor(1, 3), 9);
        Checks.due("nothing soft is taken", x.wetFor(2, 0), 0);
        x.make(0);
        Checks.due("something soft is taken", x.wetFor(2, 0), NONE);
        Checks.due("more than now", x.wetFor(0, 1), 5);
    }

    // "FILM 999 at most"
    private static void wetForFilmAtMost() {
        PadPolish x = Checks.told("t0,0;f0,86;g0;");
        for (int i = 0; i < 38; i++) {
            x.charge(99, 0);
            x.make(0);
        }
        Checks.due("film", x.cell(0, 0), 998);
        Checks.due("one more", x.wetFor(0, 1), 4);
        Checks.due("no room for two more", x.wetFor(0, 2), NONE);
        x.make(0);
        Checks.due("none more", x.wetFor(0, 0), 0);
        Checks.due("no room for one more", x.wetFor(0, 1), NONE);
    }

    // over: "(CELLS told as bits: 0 to 32767)", "how many (what = 0), which (1). BAD; STATE: no TABLE (ahead of BAD)"
    private static void overNumbers() {
        for (int cells : NO_CELLS) {
            badBehindState("over(" + cells + ", 0)", x -> x.over(cells, 0));
            badBehindState("over(" + cells + ", 1)", x -> x.over(cells, 1));
        }
        for (int what : NEITHER) {
            badBehindState("over(1, " + what + ")", x -> x.over(1, what));
        }
        Twins.refused("over(0, 0) without a table", Twins::tableless, x -> x.over(0, 0), STATE);
        PadPolish x = Checks.told("t0,0;g0eeeebwww;g5b;g14wwww;");
        Checks.due("all cells", x.over(32767, 0), 3);
        Checks.due("all cells", x.over(32767, 1), 7);
        Checks.due("the first cell", x.over(1, 1), 1);
        Checks.due("the last cell", x.over(16384, 1), 4);
    }

    // "the fewest PASSES that together go over all of them; which (bits), of several the least"
    private static void overFewestAndLeast() {
        PadPolish x = Checks.told("t0,0;g0;g1;g0e;g1w;");
        Checks.due("no cells", x.over(0, 0), 0);
        Checks.due("no cells", x.over(0, 1), 0);
        Checks.due("one cell", x.over(1, 1), 1);
        Checks.due("fewer ahead of less", x.over(3, 0), 1);
        Checks.due("of two the least", x.over(3, 1), 4);
        x = Checks.told("t0,0;g0;g1;g2;g3;");
        for (int cells = 0; cells <= 15; cells++) {
            Checks.due("how many", x.over(cells, 0), Integer.bitCount(cells));
            Checks.due("which", x.over(cells, 1), cells);
        }
    }

    // over: "NONE"
    private static void overNone() {
        PadPolish x = Checks.told("t0,0;g0;g1;g2;g3;");
        for (int cells : new int[] {16, 31, 16384, 32767}) {
            Checks.due("over(" + cells + ", 0)", x.over(cells, 0), NONE);
            Checks.due("over(" + cells + ", 1)", x.over(cells, 1), NONE);
        }
        x = Checks.told("t0,0;");
        Checks.due("none of none", x.over(0, 0) + x.over(0, 1), 0);
        Checks.due("one of none", x.over(1, 0), NONE);
        Checks.due("one of none", x.over(1, 1), NONE);
    }

    // goOn: "STATE: no TABLE"
    private static void goOnState() {
        Twins.refused("goOn() without a table", Twins::tableless, PadPolish::goOn, STATE);
        Checks.due("without film and passes", Checks.told("t9,0;").goOn(), 0);
        Checks.due("without passes", Checks.told("t9,0;f0,8;f1,9;f2,10;").goOn(), 8 + 9 + 9);
        Checks.due("without sink", Checks.told("t0,0;f0,8;g0;").goOn(), 0);
    }

    // "(can be below 0)"
    private static void goOnBelowNone() {
        // What is soft is taken up by the soaked one, but not when it rested.
        PadPolish x = charged(20, "t0,0;f0,50;g0;s0;");
        x.make(0);
        x.make(0);
        // 9 are soft; going on lays 4 at 18, then takes half of 13 up.
        Checks.due("soft", x.cell(0, 1), 9);
        Checks.due("goOn()", x.goOn(), -6 + 2);
        x = charged(20, "t1,0;f0,50;g0;s0;");
        x.make(0);
        x.make(0);
        Checks.due("goOn() with a sink", x.goOn(), -6 + 2 + 1);
    }

    // done: "BAD: ROW, what; STATE: no TABLE (ahead of BAD)"
    private static void doneNumbers() {
        for (int row : new int[] {LEAST, -1, 8, MOST}) {
            badBehindState("done(" + row + ", 0, 0)", x -> x.done(row, 0, 0));
        }
        for (int what : NEITHER) {
            badBehindState("done(0, 0, " + what + ")", x -> x.done(0, 0, what));
        }
        Twins.refused("done(0, 0, 0) without a table", Twins::tableless, x -> x.done(0, 0, 0), STATE);
        PadPolish x = Checks.told("t0,0;");
        x.row(0, 0, 15);
        x.row(7, 0, 15);
        Checks.due("done(0, 0, 0)", x.done(0, 0, 0), 1);
        Checks.due("done(7, 0, 1)", x.done(7, 0, 1), 0);
    }

    // "15 ITEMS of a ROW from i on", "PLACE"
    private static void donePlaces() {
        for (int n : new int[] {15, 16, 39, 40}) {
            for (int i = 0; i <= n - 15; i++) {
                PadPolish x = Checks.told("t0,0;f0,7;f14,8;");
                x.row(0, 0, n);
                x.set(0, i, 7);
                x.set(0, i + 14, 8);
                Checks.due("from " + i + " of " + n, x.done(0, i, 0), 1);
                Checks.due("from " + (n - 14) + " of " + n, x.done(0, n - 14, 0), Checks.PLACE);
                Checks.due("status", x.status(), 2);
            }
        }
        for (int i : new int[] {LEAST, -1, 26, 40, MOST}) {
            Twins.found("done(0, " + i + ", 0)", Twins::full, x -> x.done(0, i, 0), Checks.PLACE);
        }
        for (int i : new int[] {-1, 1}) {
            Twins.found("done(1, " + i + ", 1)", Twins::full, x -> x.done(1, i, 1), Checks.PLACE);
        }
        for (int n : new int[] {0, 1, 14}) {
            PadPolish x = Checks.told("t0,0;");
            x.row(0, 0, n);
            Checks.due("of " + n, x.done(0, 0, 0), Checks.PLACE);
        }
    }

    // done: "STATE: no TABLE (ahead of BAD); NULL; PLACE"
    private static void doneRefusalsInOrder() {
        Twins.refused("done(8, 99, 9) without a table", Twins::tableless, x -> x.done(8, 99, 9), STATE);
        Twins.refused("done(3, 99, 0) without a table", Twins::tableless, x -> x.done(3, 99, 0), STATE);
        Twins.refused("done(3, 99, 2)", Twins::full, x -> x.done(3, 99, 2), BAD);
        Twins.refused("done(8, 99, 0)", Twins::full, x -> x.done(8, 99, 0), BAD);
        Twins.found("done(3, 99, 0)", Twins::full, x -> x.done(3, 99, 0), Checks.NULL);
        Twins.found("done(3, 0, 1)", Twins::full, x -> x.done(3, 0, 1), Checks.NULL);
    }

    // "how many (what = 0), the least (1; NONE)"
    private static void doneNone() {
        PadPolish x = Checks.told("t0,0;f3,7;g3;");
        x.row(0, 0, 15);
        Checks.due("no set", x.done(0, 0, 0), 0);
        Checks.due("no least", x.done(0, 0, 1), NONE);
        x.set(0, 3, 7);
        Checks.due("both sets", x.done(0, 0, 0), 2);
        Checks.due("the least", x.done(0, 0, 1), 0);
        x.set(0, 14, 1);
        Checks.due("the last cell tells more", x.done(0, 0, 0), 0);
    }

    // "sets of PASSES (bits) that were made now, each once, in order"
    private static void doneAllSets() {
        String[] texts = {"t0,0;", "t0,0;g0;", "t0,0;g0;g0;", "t0,0;g0;g0;g0;", "t0,0;g0;g0;g0;g0;"};
        for (int passes = 0; passes <= 4; passes++) {
            PadPolish x = Checks.told(texts[passes]);
            x.row(0, 0, 15);
            Checks.due("all sets of " + passes, x.done(0, 0, 0), 1 << passes);
            Checks.due("the least", x.done(0, 0, 1), 0);
        }
        PadPolish x = charged(8, "t0,0;f0,9;g0;g1;g2;g3;");
        x.row(0, 0, 15);
        x.set(0, 0, 9);
        x.set(0, 1, 2);
        x.set(0, 2, 1);
        x.set(0, 3, 1);
        Checks.due("passes 1, 2, 3", x.done(0, 0, 0), 1);
        Checks.due("passes 1, 2, 3", x.done(0, 0, 1), 14);
        x.set(0, 0, 11);
        x.set(0, 1, 1);
        Checks.due("all four", x.done(0, 0, 1), 15);
        // Pass 3 is made, but nothing is laid by it.
        x = charged(4, "t0,0;g0;g1;");
        x.row(0, 0, 15);
        x.set(0, 0, 1);
        Checks.due("with it or without", x.done(0, 0, 0), 2);
        Checks.due("the least", x.done(0, 0, 1), 1);
    }

    /** A byte that was told as 200 is -56, which no FILM is. */
    private static void doneLanes() {
        for (int lane = 0; lane <= 2; lane++) {
            PadPolish x = Checks.told("t0,0;f0,99;g0;");
            for (int i = 0; i < 5; i++) {
                x.charge(99, 0);
                x.make(0);
            }
            Checks.due("film", x.cell(0, 0), 219);
            x.row(0, lane, 15);
            x.set(0, 0, 219);
            Checks.due("219 in lane " + lane, x.done(0, 0, 0), lane == 0 ? 0 : 1);
            x.set(0, 0, 65536 + 219);
            Checks.due("65755 in lane " + lane, x.done(0, 0, 0), lane == 1 ? 1 : 0);
        }
    }

    // cups: "t (1 to 999)", "BAD; STATE: no TABLE (ahead of BAD)"
    private static void cupsNumbers() {
        for (int cells : NO_CELLS) {
            badBehindState("cups(" + cells + ", 1)", x -> x.cups(cells, 1));
        }
        for (int t : new int[] {LEAST, -1, 0, 1000, MOST}) {
            badBehindState("cups(1, " + t + ")", x -> x.cups(1, t));
        }
        Twins.refused("cups(0, 1) without a table", Twins::tableless, x -> x.cups(0, 1), STATE);
        PadPolish x = Checks.told("t0,0;");
        Checks.due("cups(0, 1)", x.cups(0, 1), 0);
        Checks.due("cups(0, 999)", x.cups(0, 999), 0);
        Checks.due("cups(32767, 1)", x.cups(32767, 1), 15);
        Checks.due("cups(32767, 999)", x.cups(32767, 999), 15 * 999);
    }

    // "FILM that lacks to t in all CELLS of told bits, added"
    private static void cupsLack() {
        PadPolish x = Checks.told("t0,0;f0,9;f1,10;f2,11;f14,4;");
        Checks.due("one lacks 1", x.cups(1, 10), 1);
        Checks.due("one lacks none", x.cups(2, 10), 0);
        Checks.due("one has more", x.cups(4, 10), 0);
        Checks.due("more of one is not for another", x.cups(7, 10), 1);
        Checks.due("the last cell", x.cups(16384, 10), 6);
        Checks.due("together", x.cups(16384 + 1, 10), 7);
    }

    // thin: "STATE: no TABLE"
    private static void thinState() {
        Twins.refused("thin() without a table", Twins::tableless, PadPolish::thin, STATE);
    }

    // "CELLS (bits) with least FILM"
    private static void thinOneAndAll() {
        Checks.due("no film", Checks.told("t0,0;").thin(), 32767);
        int[] films = new int[15];
        java.util.Arrays.fill(films, 99);
        Checks.due("all alike", Checks.told(Checks.filmText(films)).thin(), 32767);
        for (int cell = 0; cell <= 14; cell++) {
            films[cell] = 98;
            Checks.due("cell " + cell + " alone", Checks.told(Checks.filmText(films)).thin(), 1 << cell);
            films[cell] = 99;
            Checks.due("all but cell " + cell, Checks.told("t0,0;f" + cell + ",1;").thin(), 32767 - (1 << cell));
        }
    }

    // dust: "p of 10 (0 to 10) on n CELLS (0 to 10)", "(k 0 to n)", "above (what = 0), below (1). BAD"
    private static void dustNumbers() {
        for (int p : new int[] {LEAST, -1, 11, MOST}) {
            Twins.refused("dust(" + p + ", 3, 1, 0)", Twins::full, x -> x.dust(p, 3, 1, 0), BAD);
        }
        for (int n : new int[] {LEAST, -1, 11, MOST}) {
            Twins.refused("dust(3, " + n + ", 0, 0)", Twins::full, x -> x.dust(3, n, 0, 0), BAD);
            Twins.refused("dust(3, " + n + ", " + n + ", 0)", Twins::full, x -> x.dust(3, n, n, 0), BAD);
        }
        for (int n : new int[] {0, 1, 9, 10}) {
            for (int k : new int[] {LEAST, -1, n + 1, MOST}) {
                Twins.refused("dust(3, " + n + ", " + k + ", 0)", Twins::full, x -> x.dust(3, n, k, 0), BAD);
            }
            Checks.due("dust(10, " + n + ", " + n + ", 0)", new PadPolish().dust(10, n, n, 0), 1);
        }
        for (int what : NEITHER) {
            Twins.refused("dust(3, 3, 1, " + what + ")", Twins::full, x -> x.dust(3, 3, 1, what), BAD);
            Twins.refused("dust(3, 3, 1, " + what + ")", Twins::tableless, x -> x.dust(3, 3, 1, what), BAD);
        }
        Checks.due("dust needs no table", new PadPolish().dust(3, 1, 1, 0), 3);
    }

    // "fractions, told as two numbers in lowest terms (0 is 0 by 1)"
    private static void dustLowestTerms() {
        long[][] cases = {
            // p, n, k, above, below
            {0, 1, 1, 0, 1}, {0, 10, 10, 0, 1}, {0, 10, 1, 0, 1}, {5, 1, 1, 1, 2}, {2, 1, 1, 1, 5}, {4, 1, 1, 2, 5},
            {1, 1, 1, 1, 10}, {9, 1, 1, 9, 10}, {5, 10, 10, 1, 1024}, {5, 10, 1, 1023, 1024},
            {1, 10, 10, 1, 10000000000L}, {9, 10, 10, 3486784401L, 10000000000L},
            {9, 10, 1, 9999999999L, 10000000000L}, {1, 10, 1, 6513215599L, 10000000000L}, {2, 10, 10, 1, 9765625},
        };
        PadPolish x = new PadPolish();
        for (long[] one : cases) {
            String call = "dust(" + one[0] + ", " + one[1] + ", " + one[2] + ", ";
            Checks.due(call + "0)", x.dust((int) one[0], (int) one[1], (int) one[2], 0), one[3]);
            Checks.due(call + "1)", x.dust((int) one[0], (int) one[1], (int) one[2], 1), one[4]);
        }
    }

    // "how likely on k of them, or more"
    private static void dustCertain() {
        PadPolish x = new PadPolish();
        for (int p = 0; p <= 10; p++) {
            for (int n : new int[] {0, 1, 10}) {
                Checks.due("on none or more: above", x.dust(p, n, 0, 0), 1);
                Checks.due("on none or more: below", x.dust(p, n, 0, 1), 1);
            }
        }
    }

    // evenings: "n (0 to 30)", "a SEED (1 to 999999)", "BAD; STATE: no TABLE (ahead of BAD)"
    private static void eveningsNumbers() {
        for (int n : new int[] {LEAST, -1, 31, MOST}) {
            badBehindState("evenings(" + n + ", 1, 0)", x -> x.evenings(n, 1, 0));
        }
        for (int seed : new int[] {LEAST, -1, 0, 1000000, MOST}) {
            badBehindState("evenings(1, " + seed + ", 0)", x -> x.evenings(1, seed, 0));
        }
        for (int what : NEITHER) {
            badBehindState("evenings(1, 1, " + what + ")", x -> x.evenings(1, 1, what));
        }
        Twins.refused("evenings(0, 1, 0) without a table", Twins::tableless, x -> x.evenings(0, 1, 0), STATE);
    }

    // "in each X becomes the rest of (X times 16807) by 2147483647 .."
    private static void eveningsDraws() {
        for (int seed : new int[] {1, 2, 123456, 127773, 127774, 999998, 999999}) {
            for (int n : new int[] {0, 1, 2, 29, 30}) {
                PadPolish x = drawn();
                long draw = seed;
                for (int i = 0; i < n; i++) {
                    draw = draw * 16807 % 2147483647;
                    x.make((int) (draw % 3));
                    if (draw % 7 == 0) {
                        x.stand((int) (draw % 15));
                    }
                }
                String call = "evenings(" + n + ", " + seed + ", ";
                Checks.due(call + "0)", drawn().evenings(n, seed, 0), Checks.sum(Checks.films(x)));
                Checks.due(call + "1)", drawn().evenings(n, seed, 1), Checks.spread(Checks.films(x)));
            }
        }
    }

    private static PadPolish drawn() {
        int[] films = {90, 80, 70, 60, 50, 40, 30, 90, 80, 70, 60, 50, 40, 30, 20};
        return charged(99, Checks.filmText(films) + "g0;d7;s14;");
    }

    // "the PASS that is the rest of that by how many there are (none: nothing) is made; if X by 7 leaves 0, it stands
    // still on the CELL that is the rest of X by 15"
    private static void eveningsWithoutPasses() {
        PadPolish x = Checks.told("t0,0;f4,30;f6,5;f7,30;");
        Checks.due("none", x.evenings(0, 1, 0), 65);
        // 1 becomes 16807, which leaves 0 by 7, 7 by 15; then 282475249, which leaves 0 by 7, 4 by 15.
        Checks.due("it stands on cell 7", x.evenings(1, 1, 0), 55);
        Checks.due("30 on cell 4 are the most", x.evenings(1, 1, 1), 30);
        Checks.due("then on cell 4", x.evenings(2, 1, 0), 45);
        Checks.due("20 are the most", x.evenings(2, 1, 1), 20);
        // 2 becomes 33614, which leaves 0 by 7, 14 by 15.
        Checks.due("it stands on a cell without film", x.evenings(1, 2, 0), 65);
        // 127774 becomes 13971, which leaves 6 by 7, 6 by 15.
        Checks.due("it does not stand", x.evenings(1, 127774, 0), 65);
    }

    // the same: any number leaves 0 by 1
    private static void eveningsOfOnePass() {
        PadPolish x = charged(99, "t0,0;g3;");
        Checks.due("none", x.evenings(0, 127774, 0), 0);
        Checks.due("one", x.evenings(1, 127774, 0), 24);
        Checks.due("one", x.evenings(1, 127774, 1), 24);
    }

    // image: "An IMAGE (0, 1)", "1. BAD; STATE: no TABLE"
    private static void imageNumbers() {
        for (int k : NEITHER) {
            Twins.refused("image(" + k + ")", Twins::full, x -> x.image(k), BAD);
            Twins.refused("image(" + k + ") without a table", Twins::tableless, x -> x.image(k), BAD);
        }
        for (int k = 0; k <= 1; k++) {
            int one = k;
            Twins.refused("image(" + k + ") without a table", Twins::tableless, x -> x.image(one), STATE);
            Checks.due("image(" + k + ")", Checks.told("t0,0;").image(k), 1);
        }
    }

    private static void imageInPlaceOfAnother() {
        PadPolish x = Checks.told("t0,0;");
        x.charge(1, 0);
        x.image(0);
        x.image(1);
        x.charge(1, 0);
        Checks.due("anew", x.image(0), 1);
        x.charge(1, 0);
        Checks.due("the later one", x.restore(0), 1);
        Checks.due("wet", x.pad(0), 2);
        Checks.due("the other one", x.restore(1), 1);
        Checks.due("wet", x.pad(0), 1);
    }

    // restore: "1. BAD; STATE: none was kept"
    private static void restoreNumbers() {
        for (int k : NEITHER) {
            Twins.refused("restore(" + k + ")", Twins::full, x -> x.restore(k), BAD);
            Twins.refused("restore(" + k + ") without a table", Twins::tableless, x -> x.restore(k), BAD);
        }
        Twins.refused("restore(1) of none", Twins::full, x -> x.restore(1), STATE);
        Twins.refused("restore(1) of none", Twins::busy, x -> x.restore(1), STATE);
        for (int k = 0; k <= 1; k++) {
            int one = k;
            Twins.refused("restore(" + k + ") without a table", Twins::tableless, x -> x.restore(one), STATE);
        }
    }

    private static void restoreOfOneKept() {
        for (int k = 0; k <= 1; k++) {
            PadPolish x = Checks.told("t0,0;");
            x.charge(9, 0);
            x.image(k);
            x.charge(9, 0);
            Checks.due("the other one", x.restore(1 - k), STATE);
            Checks.due("wet stays", x.pad(0), 18);
            Checks.due("acts stay", x.count(5), 2);
            Checks.due("the one that was kept", x.restore(k), 1);
            Checks.due("wet", x.pad(0), 9);
            Checks.due("again", x.restore(k), 1);
        }
    }

    // "The TABLE is as an IMAGE kept it (no ACT can be undone then)"
    private static void restoreBringsAllBack() {
        PadPolish x = Twins.after(EdgesOfForetoldTest::imagedNow);
        String kept = Checks.look(x);
        Checks.due("another table", x.table(), 1);
        x.charge(50, 50);
        x.make(0);
        Checks.feed(x, Twins.ON_TAPE);
        Checks.due("restore", x.restore(1), 1);
        Checks.due("all is as it was", Checks.look(x).equals(kept) ? 1 : 0, 1);
        Checks.due("acts", x.count(5), 0);
        Checks.due("undo", x.undo(), STATE);
        Twins.asks("restore(1) of what stands", EdgesOfForetoldTest::imagedNow, y -> y.restore(1));
    }

    /** No acts, and an image of what stands, so that a restore changes nothing. */
    private static void imagedNow(PadPolish x) {
        Twins.full(x);
        x.image(1);
        x.restore(1);
    }

    // "FORETOLD (nothing changes)"
    private static void nothingChanges() {
        Twins.asks("ahead", Twins::full, x -> x.ahead(20, 0, 0) + x.ahead(20, 14, 1));
        Twins.asks("uneven", Twins::full, x -> x.uneven(20));
        Twins.asks("order", Twins::full, x -> x.order(-1) + x.order(3));
        Twins.asks("enough", Twins::full, x -> x.enough(1) + x.enough(999));
        Twins.asks("wetFor", Twins::full, x -> x.wetFor(0, 9) + x.wetFor(1, 99));
        Twins.asks("over", Twins::full, x -> x.over(1, 0) + x.over(32767, 1));
        Twins.asks("goOn", Twins::full, PadPolish::goOn);
        Twins.unchanged("done", Twins::full, x -> x.done(0, 0, 0) + x.done(1, 0, 1));
        Twins.asks("cups", Twins::full, x -> x.cups(32767, 999));
        Twins.asks("thin", Twins::full, PadPolish::thin);
        Twins.asks("dust", Twins::full, x -> x.dust(3, 10, 5, 0));
        Twins.asks("evenings", Twins::full, x -> x.evenings(30, 999999, 0) + x.evenings(30, 1, 1));
    }
}
