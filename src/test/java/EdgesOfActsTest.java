/**
 * The edges of promises 9 to 16: the limits of FILM, SOFT, HAZE, WET and OIL, the acts that can be undone, and what
 * is refused. Above each test stands the sentence of the document that it holds to.
 */
final class EdgesOfActsTest {
    private static final int BAD = PadPolish.BAD;
    private static final int STATE = PadPolish.STATE;
    private static final int LEAST = Integer.MIN_VALUE;
    private static final int MOST = Integer.MAX_VALUE;
    private static final int[] NO_CELL = {LEAST, -1, 15, MOST};

    public static void main(String[] args) {
        undoNone();
        undoUpToTwentyFour();
        undoForgetsTheOldest();
        undoLatestFirst();
        undoEachAct();
        undoThenAnotherAct();
        undoBehindTableAndRestore();
        undoLeavesTheRest();
        chargeNumbers();
        chargeMostWet();
        chargeMostOil();
        chargeSpentIsWhatCame();
        chargeNothingIsAnAct();
        makeNumbers();
        makeWithoutPasses();
        makeGoesOverEachSo();
        slidingFourthOfWet();
        slidingFourthOfOil();
        wetNoneAtLeast();
        filmAtMost();
        filmAtMostExactly();
        filmAtMostForEachSort();
        hazeAtMost();
        hazeAtMostExactly();
        soakedHalfOfSoft();
        soakedTwice();
        dryHalf();
        dryWithoutWet();
        dryWithWet();
        drySoftNoMoreThanFilm();
        clearingHaze();
        clearingSoft();
        straightHaze();
        standNumbers();
        standFilm();
        standSoft();
        restFilm();
        restSoft();
        restHaze();
        restLeavesThePad();
        cellNumbers();
        cellPasses();
        pathNumbers();
        padNumbers();
        Checks.end();
    }

    /** A pad of this WET over cell 0; passes 0 to 2 are as told, pass 3 makes the pad dry elsewhere. */
    private static PadPolish wet(int wet, String law, String passes) {
        PadPolish x = Checks.told(law + passes + "g10ewewewew;");
        x.charge(wet, 0);
        return x;
    }

    private static void runDry(PadPolish x) {
        int last = x.count(1) - 1;
        for (int i = 0; i < 11; i++) {
            x.make(last);
        }
        Checks.due("no wet", x.pad(0), 0);
    }

    // undo: "STATE: none"
    private static void undoNone() {
        Checks.due("undo() of a new object", new PadPolish().undo(), STATE);
        Checks.due("undo() of a new table", Checks.told("t1,1;g0;").undo(), STATE);
        Twins.refused("undo() of none", Twins::tableless, PadPolish::undo, STATE);
        Twins.refused("undo() of none", EdgesOfActsTest::undone, PadPolish::undo, STATE);
    }

    private static void undone(PadPolish x) {
        Twins.full(x);
        for (int i = 0; i < 6; i++) {
            x.undo();
        }
    }

    // "ACTS (24 at most are kept ..)"
    private static void undoUpToTwentyFour() {
        for (int acts = 1; acts <= 30; acts++) {
            PadPolish x = Checks.told("t0,0;");
            for (int i = 0; i < acts; i++) {
                x.charge(1, 0);
            }
            int kept = Math.min(acts, 24);
            Checks.due("acts of " + acts, x.count(5), kept);
            for (int left = kept - 1; left >= 0; left--) {
                Checks.due("undo of " + acts, x.undo(), left);
                Checks.due("acts", x.count(5), left);
            }
            Checks.due("no more", x.undo(), STATE);
            Checks.due("wet", x.pad(0), acts - kept);
        }
    }

    // "of more the oldest is forgotten"
    private static void undoForgetsTheOldest() {
        PadPolish x = Checks.told("t0,0;f0,99;");
        x.stand(0);
        for (int i = 0; i < 23; i++) {
            x.charge(1, 0);
        }
        Checks.due("all are kept", x.count(5), 24);
        x.charge(0, 0);
        Checks.due("as many", x.count(5), 24);
        for (int left = 23; left >= 0; left--) {
            Checks.due("undo", x.undo(), left);
        }
        Checks.due("the oldest can not be undone", x.undo(), STATE);
        Checks.due("it stays done", x.cell(0, 0), 89);
        Checks.due("the others are undone", x.pad(0), 0);
    }

    // "each can be undone, the latest first"
    private static void undoLatestFirst() {
        PadPolish x = Checks.told("t0,0;");
        for (int i = 1; i <= 8; i++) {
            x.charge(i, 0);
        }
        for (int i = 8; i >= 1; i--) {
            Checks.due("wet ahead of undo " + i, x.pad(0), i * (i + 1) / 2);
            Checks.due("undo", x.undo(), i - 1);
        }
    }

    // "ACTS: the pad is charged; a PASS is made; it stands still on a CELL; a rest"
    private static void undoEachAct() {
        for (int act = 0; act < 4; act++) {
            PadPolish x = Twins.after(Twins::full);
            String before = Checks.look(x);
            int answer = act == 0 ? x.charge(9, 9) : act == 1 ? x.make(1) : act == 2 ? x.stand(1) : x.rest();
            Checks.due("act " + act, answer >= 0 ? 1 : 0, 1);
            Checks.due("acts", x.count(5), 7);
            Checks.due("undo", x.undo(), 6);
            Checks.due("all is as ahead of act " + act, Checks.look(x).equals(before) ? 1 : 0, 1);
        }
    }

    private static void undoThenAnotherAct() {
        PadPolish x = Checks.told("t0,0;");
        for (int i = 0; i < 24; i++) {
            x.charge(1, 0);
        }
        Checks.due("undo", x.undo(), 23);
        x.charge(0, 5);
        Checks.due("24 again", x.count(5), 24);
        for (int left = 23; left >= 0; left--) {
            Checks.due("undo", x.undo(), left);
            Checks.pad(x, "undone", left, 0, left);
        }
        Checks.due("no more", x.undo(), STATE);
    }

    // "A TABLE that is read ..: no ACT can be undone", restore: "(no ACT can be undone then)"
    private static void undoBehindTableAndRestore() {
        PadPolish x = Twins.after(Twins::busy);
        x.table();
        Checks.due("undo behind a table", x.undo(), STATE);
        x = Twins.after(Twins::busy);
        x.restore(0);
        Checks.due("undo behind a restore", x.undo(), STATE);
        x = Twins.after(Twins::busy);
        x.image(0);
        Checks.due("undo behind an image", x.undo(), 23);
    }

    private static void undoLeavesTheRest() {
        Twins.asks("an act undone", Twins::full, x -> x.make(1) + x.undo());
        Twins.asks("two acts undone", Twins::full, x -> x.rest() + x.stand(0) + x.undo() + x.undo());
    }

    // charge: "(0 to 99 each)", "BAD; STATE: no TABLE (ahead of BAD)"
    private static void chargeNumbers() {
        for (int v : new int[] {0, 1, 98, 99}) {
            Checks.due("charge(" + v + ", 0)", Checks.told("t0,0;").charge(v, 0), v);
            Checks.due("charge(0, " + v + ")", Checks.told("t0,0;").charge(0, v), 0);
        }
        for (int v : new int[] {LEAST, -1, 100, MOST}) {
            Twins.refused("charge(" + v + ", 0)", Twins::full, x -> x.charge(v, 0), BAD);
            Twins.refused("charge(0, " + v + ")", Twins::busy, x -> x.charge(0, v), BAD);
            Twins.refused("charge(" + v + ", 0) without a table", Twins::tableless, x -> x.charge(v, 0), STATE);
            Twins.refused("charge(0, " + v + ") without a table", Twins::tableless, x -> x.charge(0, v), STATE);
        }
        Twins.refused("charge(1, 1) without a table", Twins::tableless, x -> x.charge(1, 1), STATE);
    }

    // "WET and OIL are more (99 at most)"
    private static void chargeMostWet() {
        int[][] cases = {{0, 99, 99}, {1, 98, 99}, {1, 99, 99}, {50, 48, 98}, {50, 49, 99}, {50, 50, 99}, {99, 0, 99},
            {99, 1, 99}, {99, 99, 99}};
        for (int[] one : cases) {
            PadPolish x = Checks.told("t0,0;");
            x.charge(one[0], 0);
            Checks.due("WET " + one[0] + " and " + one[1], x.charge(one[1], 0), one[2]);
            Checks.pad(x, "the pad", one[2], 0, one[2]);
        }
    }

    // the same
    private static void chargeMostOil() {
        int[][] cases = {{0, 99, 99}, {9, 89, 98}, {9, 90, 99}, {9, 91, 99}, {9, 99, 99}};
        for (int[] one : cases) {
            PadPolish x = Checks.told("t0," + one[0] + ";");
            Checks.due("OIL " + one[0] + " and " + one[1], x.charge(0, one[1]), 0);
            Checks.pad(x, "the pad", 0, one[2], 0);
            x.charge(0, 99);
            Checks.pad(x, "the pad", 0, 99, 0);
        }
    }

    // "WET that came is SPENT"
    private static void chargeSpentIsWhatCame() {
        PadPolish x = Checks.told("t0,0;g0ewewewew;");
        x.charge(99, 99);
        Checks.due("spent", x.pad(2), 99);
        x.charge(99, 99);
        Checks.due("none came", x.pad(2), 99);
        x.make(0);
        x.charge(8, 0);
        Checks.due("8 came", x.pad(2), 107);
        x.charge(2, 0);
        Checks.due("1 of 2 came", x.pad(2), 108);
        x.undo();
        Checks.due("undone", x.pad(2), 107);
    }

    private static void chargeNothingIsAnAct() {
        PadPolish x = Checks.told("t0,0;");
        Checks.due("charge(0, 0)", x.charge(0, 0), 0);
        Checks.due("acts", x.count(5), 1);
        x.charge(99, 99);
        x.charge(99, 99);
        Checks.due("acts", x.count(5), 3);
    }

    // make: "BAD"; "PASSES 0 .. 3"
    private static void makeNumbers() {
        for (int pass = 0; pass <= 3; pass++) {
            PadPolish x = Twins.after(Twins::full);
            int wet = x.pad(0);
            Checks.due("make(" + pass + ")", x.make(pass), wet - x.path(pass, -1));
            Checks.due("acts", x.count(5), 7);
        }
        for (int pass : new int[] {LEAST, -1, 4, MOST}) {
            Twins.refused("make(" + pass + ")", Twins::full, x -> x.make(pass), BAD);
            Twins.refused("make(" + pass + ")", Twins::busy, x -> x.make(pass), BAD);
        }
        for (int pass = 0; pass <= 3; pass++) {
            PadPolish x = Checks.told("t0,0;g0;s0;");
            Checks.due("make(" + pass + ") of two", x.make(pass), pass < 2 ? 0 : BAD);
        }
    }

    // "there is no such thing"
    private static void makeWithoutPasses() {
        PadPolish x = Checks.told("t0,0;");
        for (int pass = -1; pass <= 4; pass++) {
            int one = pass;
            Checks.due("make(" + pass + ") without passes", x.make(pass), BAD);
            Twins.refused("make(" + pass + ") without a table", Twins::tableless, y -> y.make(one), BAD);
        }
        Checks.due("acts", x.count(5), 0);
    }

    // "A PASS goes over its CELL, then over that of each STEP, and over each so"
    private static void makeGoesOverEachSo() {
        PadPolish x = Checks.told("t0,4;g7;g6ewe;");
        x.charge(40, 0);
        Checks.due("over one cell", x.make(0), 39);
        Checks.film(x, "over one cell", 7, 10, 10, 1);
        Checks.due("over two cells, twice each", x.make(1), 35);
        Checks.film(x, "at 39, 37", 6, 9 + 9, 18, 2);
        Checks.film(x, "at 38, 36", 7, 10 + 9 + 9, 28, 3);
        Checks.due("no other cells", x.count(3), 2);
    }

    // "a sliding one LAYS a fourth of WET (cut)", "then WET is 1 less"
    private static void slidingFourthOfWet() {
        for (int wet = 0; wet <= 99; wet++) {
            PadPolish x = Checks.told("t0,0;f0,3;g0;");
            x.charge(wet, 0);
            Checks.due("make at " + wet, x.make(0), Math.max(wet - 1, 0));
            Checks.film(x, "at " + wet, 0, 3 + wet / 4, wet / 4, 0);
        }
    }

    // "HAZE is more by a fourth of OIL (cut ..)"
    private static void slidingFourthOfOil() {
        for (int sort = 0; sort < 3; sort++) {
            for (int oil = 0; oil <= 99; oil++) {
                PadPolish x = Checks.told("t0,0;" + "gsd".charAt(sort) + "0;");
                x.charge(1, oil);
                x.make(0);
                Checks.film(x, "oil " + oil, 0, 0, 0, oil / 4);
                Checks.pad(x, "oil stays", 0, oil, 1);
            }
        }
    }

    // "(WET 0 at least.)"
    private static void wetNoneAtLeast() {
        for (char sort : new char[] {'g', 's', 'd', 'c', 'r'}) {
            PadPolish x = Checks.told("t0,0;" + sort + "0;" + sort + "0e;");
            Checks.due("make at 0", x.make(0), 0);
            x.charge(1, 0);
            Checks.due("make at 1", x.make(0), 0);
            x.charge(1, 0);
            Checks.due("two cells at 1", x.make(1), 0);
            x.charge(2, 0);
            Checks.due("two cells at 2", x.make(1), 0);
            x.charge(3, 0);
            Checks.due("two cells at 3", x.make(1), 1);
        }
    }

    /** FILM of cell 0 becomes first and 38 times 24; the pad has WET 99 then. */
    private static PadPolish thick(int first, String passes) {
        PadPolish x = Checks.told("t0,0;f0," + first + ";g0;" + passes);
        for (int i = 0; i < 38; i++) {
            x.charge(99, 0);
            x.make(0);
        }
        x.charge(99, 0);
        return x;
    }

    // "FILM and SOFT there are more by that (FILM 999 at most, SOFT as much as that is more)"
    private static void filmAtMost() {
        PadPolish x = thick(86, "");
        Checks.film(x, "nearly", 0, 998, 912, 0);
        x.make(0);
        Checks.film(x, "one of 24 has room", 0, 999, 913, 0);
        x.make(0);
        Checks.film(x, "none of 24 has room", 0, 999, 913, 0);
        Checks.due("wet is less all the same", x.pad(0), 97);
    }

    // the same
    private static void filmAtMostExactly() {
        PadPolish x = thick(63, "");
        Checks.film(x, "nearly", 0, 975, 912, 0);
        x.make(0);
        Checks.film(x, "24 have just room", 0, 999, 936, 0);
        x = thick(64, "");
        Checks.film(x, "nearly", 0, 976, 912, 0);
        x.make(0);
        Checks.film(x, "23 of 24 have room", 0, 999, 935, 0);
    }

    // the same, for the sorts that lay twice and half as much
    private static void filmAtMostForEachSort() {
        PadPolish x = thick(87, "s0;d0;");
        Checks.film(x, "full", 0, 999, 912, 0);
        x.make(2);
        Checks.film(x, "a dry one on the full", 0, 999, 912, 0);
        x.rest();
        Checks.film(x, "nothing is soft", 0, 999, 0, 0);
        x.make(1);
        Checks.film(x, "a soaked one on the full", 0, 999, 0, 0);
        x.stand(0);
        x.make(2);
        Checks.film(x, "10 of 12 have room", 0, 999, 10, 0);
        x.stand(0);
        x.make(1);
        Checks.film(x, "10 of 48 have room", 0, 999, 10, 0);
        x.make(1);
        Checks.film(x, "5 taken up, 5 have room", 0, 999, 10, 0);
        x.stand(0);
        x.make(0);
        Checks.film(x, "10 of 24 have room", 0, 999, 10, 0);
    }

    // "HAZE is more by a fourth of OIL (.. 99 at most)"
    private static void hazeAtMost() {
        for (char sort : new char[] {'g', 's', 'd'}) {
            PadPolish x = Checks.told("t0,0;" + sort + "0;");
            x.charge(0, 99);
            for (int i = 1; i <= 6; i++) {
                x.make(0);
                Checks.due("haze " + i, x.cell(0, 2), Math.min(24 * i, 99));
            }
        }
    }

    // the same
    private static void hazeAtMostExactly() {
        PadPolish x = Checks.told("t0,4;g0;");
        for (int i = 1; i <= 101; i++) {
            x.make(0);
            Checks.due("haze " + i, x.cell(0, 2), Math.min(i, 99));
        }
    }

    // "A soaked one first takes up half of what is SOFT there (cut): FILM and SOFT are less by that"
    private static void soakedHalfOfSoft() {
        for (int soft = 0; soft <= 24; soft++) {
            PadPolish x = wet(4 * soft, "t0,0;f0,3;", "g0;s0;");
            x.make(0);
            runDry(x);
            Checks.film(x, "laid", 0, 3 + soft, soft, 0);
            x.make(1);
            Checks.film(x, "half of " + soft, 0, 3 + soft - soft / 2, soft - soft / 2, 0);
        }
    }

    // "then it does as a sliding one, but LAYS twice as much"
    private static void soakedTwice() {
        for (int wet = 0; wet <= 99; wet++) {
            PadPolish x = Checks.told("t0,0;f0,3;s0;");
            x.charge(wet, 0);
            Checks.due("make at " + wet, x.make(0), Math.max(wet - 1, 0));
            Checks.film(x, "at " + wet, 0, 3 + wet / 4 * 2, wet / 4 * 2, 0);
        }
    }

    // "A dry one LAYS half as much (cut)"
    private static void dryHalf() {
        for (int wet = 1; wet <= 99; wet++) {
            PadPolish x = Checks.told("t0,0;f0,3;d0;");
            x.charge(wet, 0);
            Checks.due("make at " + wet, x.make(0), wet - 1);
            Checks.film(x, "at " + wet, 0, 3 + wet / 8, wet / 8, 0);
        }
    }

    // "and if WET is 0 there, takes 2 of FILM off first (0 at least ..)"
    private static void dryWithoutWet() {
        int[] left = {0, 0, 0, 1, 2};
        for (int film = 0; film <= 4; film++) {
            PadPolish x = Checks.told("t0,4;f0," + film + ";d0;");
            Checks.due("make", x.make(0), 0);
            Checks.film(x, "2 off " + film, 0, left[film], 0, 1);
        }
    }

    // "if WET is 0 there"
    private static void dryWithWet() {
        PadPolish x = Checks.told("t0,0;f0,9;f1,9;f2,9;d0ee;");
        x.charge(2, 0);
        x.make(0);
        Checks.film(x, "at 2", 0, 9, 0, 0);
        Checks.film(x, "at 1", 1, 9, 0, 0);
        Checks.film(x, "at 0", 2, 7, 0, 0);
    }

    // "SOFT no more than FILM"
    private static void drySoftNoMoreThanFilm() {
        int[][] cases = {
            // FILM that is not soft, SOFT, then FILM, SOFT
            {0, 1, 0, 0}, {0, 2, 0, 0}, {0, 3, 1, 1}, {1, 1, 0, 0}, {1, 2, 1, 1}, {1, 3, 2, 2}, {2, 1, 1, 1},
            {2, 2, 2, 2}, {3, 2, 3, 2}, {3, 0, 1, 0},
        };
        for (int[] one : cases) {
            PadPolish x = wet(4 * one[1], "t0,0;f0," + one[0] + ";", "g0;d0;");
            x.make(0);
            runDry(x);
            Checks.film(x, "laid", 0, one[0] + one[1], one[1], 0);
            x.make(1);
            Checks.film(x, "2 off", 0, one[2], one[3], 0);
        }
    }

    // "A clearing one takes 4 of HAZE off (0 at least)"
    private static void clearingHaze() {
        haze('c', 4);
    }

    // "A straight one does so, but takes 8 of HAZE"
    private static void straightHaze() {
        haze('r', 8);
        soft('r');
    }

    private static void haze(char sort, int off) {
        for (int haze = 0; haze <= 24; haze++) {
            PadPolish x = Checks.told("t0,0;f0,5;g0;" + sort + "0;");
            x.charge(2, 4 * haze > 99 ? 99 : 4 * haze);
            x.make(0);
            Checks.film(x, "haze", 0, 5, 0, haze);
            Checks.due("make", x.make(1), 0);
            Checks.film(x, off + " off " + haze, 0, 5, 0, Math.max(haze - off, 0));
        }
    }

    // "and 1 of FILM, if anything is SOFT there (of SOFT, too); WET is 1 less"
    private static void clearingSoft() {
        soft('c');
    }

    private static void soft(char sort) {
        for (int film = 0; film <= 2; film++) {
            for (int soft = 0; soft <= 3; soft++) {
                PadPolish x = Checks.told("t0,0;f0," + film + ";g0;" + sort + "0;");
                x.charge(4 * soft, 0);
                x.make(0);
                Checks.film(x, "laid", 0, film + soft, soft, 0);
                int wet = x.pad(0);
                int off = Math.min(soft, 1);
                Checks.due("make", x.make(1), Math.max(wet - 1, 0));
                Checks.film(x, "1 off, if " + soft, 0, film + soft - off, soft - off, 0);
            }
        }
    }

    // stand: "BAD; STATE: no TABLE (ahead of BAD)"
    private static void standNumbers() {
        for (int cell = 0; cell <= 14; cell++) {
            int one = cell;
            Checks.due("stand(" + cell + ")", Checks.told("t0,0;f" + cell + ",99;").stand(cell), 89);
            Twins.refused("stand(" + cell + ") without a table", Twins::tableless, x -> x.stand(one), STATE);
        }
        for (int cell : NO_CELL) {
            Twins.refused("stand(" + cell + ")", Twins::full, x -> x.stand(cell), BAD);
            Twins.refused("stand(" + cell + ")", Twins::busy, x -> x.stand(cell), BAD);
            Twins.refused("stand(" + cell + ") without a table", Twins::tableless, x -> x.stand(cell), STATE);
        }
    }

    // "FILM is 10 less (0 at least)"
    private static void standFilm() {
        for (int film : new int[] {0, 1, 9, 10, 11, 20, 99}) {
            PadPolish x = Checks.told("t0,0;f3," + film + ";f4,50;");
            Checks.due("10 off " + film, x.stand(3), Math.max(film - 10, 0));
            Checks.due("10 off " + film, x.cell(3, 0), Math.max(film - 10, 0));
            Checks.due("of no other cell", x.cell(4, 0), 50);
            Checks.due("an act", x.count(5), 1);
        }
    }

    // "SOFT 0 there"
    private static void standSoft() {
        PadPolish x = Checks.told("t0,9;f0,30;g0e;");
        x.charge(99, 0);
        x.make(0);
        Checks.due("stand", x.stand(0), 44);
        Checks.film(x, "soft no more", 0, 44, 0, 2);
        Checks.film(x, "soft yet", 1, 24, 24, 2);
        Checks.due("stand", x.stand(1), 14);
        Checks.film(x, "soft no more", 1, 14, 0, 2);
        Checks.pad(x, "the pad stays", 97, 9, 99);
    }

    // rest: "it sinks by SINK (0 at least)", "FILM of all CELLS", "STATE: no TABLE"
    private static void restFilm() {
        for (int sink = 0; sink <= 9; sink++) {
            PadPolish x = Checks.told("t" + sink + ",0;f0,8;f1,9;f2,10;f13,1;f14,99;");
            int[] films = {8, 9, 10, 1, 99};
            int[] cells = {0, 1, 2, 13, 14};
            int all = 0;
            for (int film : films) {
                all += Math.max(film - sink, 0);
            }
            Checks.due("rest", x.rest(), all);
            for (int i = 0; i < cells.length; i++) {
                Checks.due("film of " + films[i] + " by " + sink, x.cell(cells[i], 0), Math.max(films[i] - sink, 0));
            }
            Checks.due("an act", x.count(5), 1);
        }
        Checks.due("of no film", Checks.told("t9,0;").rest(), 0);
        Twins.refused("rest() without a table", Twins::tableless, PadPolish::rest, STATE);
    }

    // "nothing is SOFT"
    private static void restSoft() {
        PadPolish x = Checks.told("t0,0;f7,9;g5eeee;g10eeee;");
        x.charge(99, 0);
        x.make(0);
        x.make(1);
        Checks.due("soft", x.count(4), 10);
        int film = Checks.sum(Checks.films(x));
        Checks.due("it sinks by none", x.rest(), film);
        Checks.due("soft", x.count(4), 0);
        for (int cell = 0; cell <= 14; cell++) {
            Checks.due("soft", x.cell(cell, 1), 0);
        }
    }

    // "HAZE is 1 less, if there is any"
    private static void restHaze() {
        PadPolish x = Checks.told("t0,4;f0,9;f1,9;f2,9;g0ee;g1e;g2;");
        x.make(0);
        x.make(1);
        x.make(2);
        int[] haze = {1, 2, 3, 0};
        for (int rests = 0; rests <= 4; rests++) {
            for (int cell = 0; cell <= 3; cell++) {
                Checks.due("haze of " + cell + " behind " + rests, x.cell(cell, 2), Math.max(haze[cell] - rests, 0));
            }
            x.rest();
        }
    }

    private static void restLeavesThePad() {
        PadPolish x = Checks.told("t9,9;f0,9;");
        x.charge(50, 50);
        Checks.due("rest", x.rest(), 0);
        Checks.pad(x, "the pad stays", 50, 59, 50);
    }

    // cell: "0 FILM, 1 SOFT, 2 HAZE, 3 PASSES", "BAD; STATE: no TABLE (ahead of BAD)"
    private static void cellNumbers() {
        PadPolish x = Checks.told("t0,8;f0,5;f14,6;g14;");
        x.charge(20, 0);
        x.make(0);
        int[][] due = {{0, 5, 0, 0, 0}, {14, 11, 5, 2, 1}};
        for (int[] one : due) {
            for (int what = 0; what <= 3; what++) {
                Checks.due("cell(" + one[0] + ", " + what + ")", x.cell(one[0], what), one[1 + what]);
            }
        }
        for (int cell : NO_CELL) {
            for (int what = 0; what <= 3; what++) {
                int asked = what;
                Twins.refused("cell(" + cell + ", " + what + ")", Twins::full, y -> y.cell(cell, asked), BAD);
            }
            Twins.refused("cell(" + cell + ", 0) without a table", Twins::tableless, y -> y.cell(cell, 0), STATE);
        }
        for (int what : new int[] {LEAST, -1, 4, MOST}) {
            Twins.refused("cell(0, " + what + ")", Twins::full, y -> y.cell(0, what), BAD);
            Twins.refused("cell(0, " + what + ") without a table", Twins::tableless, y -> y.cell(0, what), STATE);
        }
        Twins.refused("cell(0, 0) without a table", Twins::tableless, y -> y.cell(0, 0), STATE);
    }

    // "PASSES that go over it (bits)"
    private static void cellPasses() {
        PadPolish x = Checks.told("t0,0;g0ewe;s0;d0e;c1;");
        Checks.due("three go over it", x.cell(0, 3), 7);
        Checks.due("three go over it", x.cell(1, 3), 13);
        Checks.due("none goes over it", x.cell(2, 3), 0);
        x = Checks.told("t0,0;");
        Checks.due("there are none", x.cell(0, 3), 0);
        x = Checks.told("t0,0;g9;g9;g9;g9;");
        Checks.due("all go over it", x.cell(9, 3), 15);
    }

    // path: "the k-th CELL it goes over (0 on), how many (k = -1). NONE: no such one. BAD: k below -1"
    private static void pathNumbers() {
        PadPolish x = Checks.told("t0,0;g7;s0eeeebbww;");
        Checks.due("how many", x.path(0, -1), 1);
        Checks.due("the first", x.path(0, 0), 7);
        Checks.due("no second", x.path(0, 1), PadPolish.NONE);
        int[] way = {0, 1, 2, 3, 4, 9, 14, 13, 12};
        Checks.due("how many", x.path(1, -1), 9);
        for (int k = 0; k < 9; k++) {
            Checks.due("path(1, " + k + ")", x.path(1, k), way[k]);
        }
        Checks.due("no tenth", x.path(1, 9), PadPolish.NONE);
        Checks.due("none far on", x.path(1, MOST), PadPolish.NONE);
        for (int k : new int[] {-2, LEAST}) {
            Twins.refused("path(0, " + k + ")", Twins::full, y -> y.path(0, k), BAD);
        }
        for (int pass : new int[] {LEAST, -1, 4, MOST}) {
            for (int k : new int[] {-1, 0, 99}) {
                Twins.refused("path(" + pass + ", " + k + ")", Twins::full, y -> y.path(pass, k), BAD);
            }
        }
        Checks.due("path(2, 0) of two passes", x.path(2, 0), BAD);
        Twins.refused("path(0, -1) without a table", Twins::tableless, y -> y.path(0, -1), BAD);
        Checks.due("path(0, -1) without passes", Checks.told("t0,0;").path(0, -1), BAD);
    }

    // pad: "WET (what = 0), OIL (1), WET that was SPENT (2). BAD; STATE: no TABLE (ahead of BAD)"
    private static void padNumbers() {
        PadPolish x = Checks.told("t0,3;g0;");
        x.charge(20, 7);
        x.make(0);
        Checks.pad(x, "the pad", 19, 10, 20);
        for (int what : new int[] {LEAST, -1, 3, MOST}) {
            Twins.refused("pad(" + what + ")", Twins::full, y -> y.pad(what), BAD);
            Twins.refused("pad(" + what + ") without a table", Twins::tableless, y -> y.pad(what), STATE);
        }
        for (int what = 0; what <= 2; what++) {
            int asked = what;
            Twins.refused("pad(" + what + ") without a table", Twins::tableless, y -> y.pad(asked), STATE);
        }
    }
}
