/** Promises 9 to 16, 29, 30 and 35: what is done, undone, kept and counted. */
final class ActsTest {
    private static final int[] NO_CELL = {Integer.MIN_VALUE, -1, 15, Integer.MAX_VALUE};

    public static void main(String[] args) {
        charging();
        sliding();
        soaked();
        dry();
        clearing();
        straight();
        mostFilm();
        standing();
        resting();
        lookingAtCells();
        lookingAtPaths();
        undoing();
        undoingMany();
        images();
        counting();
        Checks.end();
    }

    private static void charging() {
        PadPolish x = Checks.told("t0,5;");
        Checks.pad(x, "new", 0, 5, 0);
        Checks.due("charge", x.charge(60, 40), 60);
        Checks.pad(x, "charged", 60, 45, 60);
        Checks.due("charge", x.charge(0, 0), 60);
        Checks.due("that is an act, too", x.count(5), 2);
        Checks.due("charge beyond", x.charge(99, 99), 99);
        Checks.pad(x, "full", 99, 99, 99);
        for (int v : new int[] {Integer.MIN_VALUE, -1, 100, Integer.MAX_VALUE}) {
            Checks.due("wet of " + v, x.charge(v, 0), PadPolish.BAD);
            Checks.due("oil of " + v, x.charge(0, v), PadPolish.BAD);
        }
        Checks.due("refused ones are no acts", x.count(5), 3);
        for (int what : new int[] {Integer.MIN_VALUE, -1, 3, Integer.MAX_VALUE}) {
            Checks.due("pad(" + what + ")", x.pad(what), PadPolish.BAD);
        }
        x = Checks.told("t0,0;g0eeee;");
        x.charge(50, 0);
        x.make(0);
        x.charge(99, 0);
        Checks.pad(x, "only what came is spent", 99, 0, 104);
    }

    private static void sliding() {
        PadPolish x = Checks.told("t0,9;f0,10;g0ee;");
        Checks.due("make dry", x.make(0), 0);
        Checks.film(x, "no wet", 0, 10, 0, 2);
        Checks.film(x, "no wet", 2, 0, 0, 2);
        x.charge(9, 4);
        Checks.due("make", x.make(0), 6);
        Checks.film(x, "9 by 4", 0, 12, 2, 5);
        Checks.film(x, "8 by 4", 1, 2, 2, 5);
        Checks.film(x, "7 by 4", 2, 1, 1, 5);
        Checks.film(x, "not gone over", 3, 0, 0, 0);
        Checks.pad(x, "oil stays", 6, 13, 9);
        for (int pass : new int[] {Integer.MIN_VALUE, -1, 1, 4, Integer.MAX_VALUE}) {
            Checks.due("make(" + pass + ")", x.make(pass), PadPolish.BAD);
        }
        Checks.due("refused ones are no acts", x.count(5), 3);
        x = Checks.told("t0,0;g0ewewewew;");
        x.charge(4, 3);
        Checks.due("wet ends at none", x.make(0), 0);
        Checks.film(x, "only while it was wet", 0, 1, 1, 0);
        Checks.film(x, "only while it was wet", 1, 0, 0, 0);
        x = Checks.told("t0,9;g0ewewewew;");
        x.charge(0, 99);
        x.make(0);
        Checks.film(x, "haze 99 at most", 0, 0, 0, 99);
        Checks.film(x, "four times 24", 1, 0, 0, 96);
    }

    private static void soaked() {
        PadPolish x = Checks.told("t0,4;f0,10;s0;g0;");
        x.charge(23, 0);
        Checks.due("make", x.make(0), 22);
        Checks.film(x, "twice 5", 0, 20, 10, 1);
        Checks.due("make", x.make(0), 21);
        Checks.film(x, "5 taken up, twice 5", 0, 25, 15, 2);
        Checks.due("make", x.make(0), 20);
        Checks.film(x, "7 taken up, twice 5", 0, 28, 18, 3);
        for (int i = 0; i < 20; i++) {
            x.make(1);
        }
        Checks.due("no wet", x.pad(0), 0);
        int film = x.cell(0, 0);
        int soft = x.cell(0, 1);
        x.make(0);
        Checks.film(x, "half of it taken up", 0, film - soft / 2, soft - soft / 2, 24);
    }

    private static void dry() {
        PadPolish x = Checks.told("t0,8;f0,5;f1,1;d0e;g0;s0;");
        Checks.due("make without wet", x.make(0), 0);
        Checks.film(x, "2 off", 0, 3, 0, 2);
        Checks.film(x, "0 at least", 1, 0, 0, 2);
        x.charge(31, 0);
        Checks.due("make", x.make(0), 29);
        Checks.film(x, "7 by 2", 0, 6, 3, 4);
        Checks.film(x, "7 by 2", 1, 3, 3, 4);
        x = Checks.told("t0,0;d0eeee;s0e;");
        x.charge(4, 0);
        x.make(1);
        Checks.film(x, "laid", 0, 2, 2, 0);
        x.make(0);
        Checks.film(x, "wet there yet: 2 by 4 by 2", 0, 2, 2, 0);
        x = Checks.told("t0,0;f0,1;g0e;d0e;d0;");
        x.charge(4, 0);
        x.make(0);
        x.make(2);
        x.make(2);
        Checks.due("no wet", x.pad(0), 0);
        Checks.film(x, "laid", 0, 2, 1, 0);
        x.make(2);
        Checks.film(x, "soft no more than film", 0, 0, 0, 0);
        x = Checks.told("t0,0;f0,2;g0;d0;d1eee;");
        x.charge(4, 0);
        x.make(0);
        x.make(2);
        Checks.film(x, "laid", 0, 3, 1, 0);
        x.make(1);
        Checks.film(x, "soft as much as film", 0, 1, 1, 0);
    }

    private static void clearing() {
        PadPolish x = Checks.told("t0,9;f0,5;g0;c0;");
        x.charge(8, 15);
        x.make(0);
        Checks.film(x, "laid", 0, 7, 2, 6);
        Checks.due("make", x.make(1), 6);
        Checks.film(x, "cleared", 0, 6, 1, 2);
        Checks.due("make", x.make(1), 5);
        Checks.film(x, "haze 0 at least", 0, 5, 0, 0);
        Checks.due("make", x.make(1), 4);
        Checks.film(x, "film only where soft", 0, 5, 0, 0);
        x = Checks.told("t0,9;f0,5;g0;c0eeee;");
        x.charge(2, 15);
        x.make(0);
        Checks.film(x, "haze alone", 0, 5, 0, 6);
        Checks.due("wet 0 at least", x.make(1), 0);
        Checks.film(x, "haze goes where nothing is soft", 0, 5, 0, 2);
    }

    private static void straight() {
        PadPolish x = Checks.told("t0,9;f0,5;g0;r0;");
        x.charge(8, 75);
        x.make(0);
        Checks.film(x, "laid", 0, 7, 2, 21);
        Checks.due("make", x.make(1), 6);
        Checks.film(x, "cleared", 0, 6, 1, 13);
        Checks.due("make", x.make(1), 5);
        Checks.film(x, "cleared", 0, 5, 0, 5);
        Checks.due("make", x.make(1), 4);
        Checks.film(x, "haze 0 at least", 0, 5, 0, 0);
    }

    private static void mostFilm() {
        PadPolish x = Checks.told("t0,0;f0,99;g0ewewewew;s0;");
        for (int i = 0; i < 8; i++) {
            x.charge(99, 0);
            x.make(0);
        }
        int film = x.cell(0, 0);
        int soft = x.cell(0, 1);
        Checks.due("all but the first film is soft", film - soft, 99);
        for (int i = 0; i < 4; i++) {
            x.charge(99, 0);
            x.make(0);
        }
        Checks.film(x, "999 at most, soft as much as it is more", 0, 999, 900, 0);
        x.charge(99, 0);
        x.make(1);
        Checks.film(x, "450 taken up, 48 laid", 0, 597, 498, 0);
    }

    private static void standing() {
        PadPolish x = Checks.told("t0,9;f0,25;f1,9;g0;");
        x.charge(20, 0);
        x.make(0);
        Checks.film(x, "laid", 0, 30, 5, 2);
        Checks.due("stand", x.stand(0), 20);
        Checks.film(x, "stood", 0, 20, 0, 2);
        Checks.due("stand", x.stand(1), 0);
        Checks.due("stand on none", x.stand(14), 0);
        for (int cell : NO_CELL) {
            Checks.due("stand(" + cell + ")", x.stand(cell), PadPolish.BAD);
        }
        Checks.due("acts", x.count(5), 5);
        Checks.pad(x, "the pad stays", 19, 9, 20);
    }

    private static void resting() {
        PadPolish x = Checks.told("t3,9;f0,25;f1,2;f2,3;g0e;g5;");
        x.charge(8, 0);
        x.make(0);
        x.make(1);
        Checks.film(x, "laid", 0, 27, 2, 2);
        Checks.film(x, "laid", 1, 3, 1, 2);
        Checks.film(x, "laid", 5, 1, 1, 2);
        Checks.due("rest", x.rest(), 24);
        Checks.film(x, "rested", 0, 24, 0, 1);
        Checks.film(x, "rested", 1, 0, 0, 1);
        Checks.film(x, "rested", 2, 0, 0, 0);
        Checks.film(x, "rested", 5, 0, 0, 1);
        Checks.due("rest", x.rest(), 21);
        Checks.film(x, "haze without film", 5, 0, 0, 0);
        Checks.due("rest", x.rest(), 18);
        Checks.film(x, "haze 0 at least", 5, 0, 0, 0);
        Checks.pad(x, "the pad stays", 5, 9, 8);
    }

    private static void lookingAtCells() {
        PadPolish x = Checks.told("t3,9;f0,25;g0e;c1w;d14nn;r9ww;");
        int[] across = new int[15];
        across[0] = 3;
        across[1] = 3;
        across[14] = 4;
        across[9] = 12;
        across[4] = 4;
        across[8] = 8;
        across[7] = 8;
        for (int cell = 0; cell < 15; cell++) {
            Checks.due("cell(" + cell + ", 3)", x.cell(cell, 3), across[cell]);
        }
        for (int cell : NO_CELL) {
            Checks.due("cell(" + cell + ", 0)", x.cell(cell, 0), PadPolish.BAD);
        }
        for (int what : new int[] {Integer.MIN_VALUE, -1, 4, Integer.MAX_VALUE}) {
            Checks.due("cell(0, " + what + ")", x.cell(0, what), PadPolish.BAD);
        }
    }

    private static void lookingAtPaths() {
        PadPolish x = Checks.told("t3,9;g7;c1w;");
        Checks.due("path(0, -1)", x.path(0, -1), 1);
        Checks.due("path(0, 0)", x.path(0, 0), 7);
        Checks.due("path(0, 1)", x.path(0, 1), PadPolish.NONE);
        Checks.due("path(1, -1)", x.path(1, -1), 2);
        Checks.due("path(1, 1)", x.path(1, 1), 0);
        Checks.due("path(1, 2)", x.path(1, 2), PadPolish.NONE);
        Checks.due("path far on", x.path(1, Integer.MAX_VALUE), PadPolish.NONE);
        Checks.due("path(1, -2)", x.path(1, -2), PadPolish.BAD);
        Checks.due("path far back", x.path(1, Integer.MIN_VALUE), PadPolish.BAD);
        Checks.due("path(2, 0)", x.path(2, 0), PadPolish.BAD);
        Checks.due("path(-1, 0)", x.path(-1, 0), PadPolish.BAD);
    }

    private static void undoing() {
        PadPolish x = Checks.told("t3,9;f0,25;f4,99;s0ewew;c0e;");
        String[] seen = new String[7];
        seen[0] = state(x);
        x.charge(50, 50);
        seen[1] = state(x);
        x.make(0);
        seen[2] = state(x);
        x.stand(1);
        seen[3] = state(x);
        x.rest();
        seen[4] = state(x);
        x.charge(99, 99);
        seen[5] = state(x);
        x.make(1);
        seen[6] = state(x);
        for (int i = 5; i >= 0; i--) {
            Checks.due("undo", x.undo(), i);
            Checks.due("as ahead of act " + i, state(x).equals(seen[i]) ? 1 : 0, 1);
        }
        Checks.due("undo of none", x.undo(), PadPolish.STATE);
        x.make(0);
        Checks.due("an act anew", x.count(5), 1);
        Checks.due("undone", x.undo(), 0);
        Checks.due("as at first", state(x).equals(seen[0]) ? 1 : 0, 1);
    }

    private static String state(PadPolish x) {
        StringBuilder seen = new StringBuilder();
        for (int cell : new int[] {0, 1, 4, 14}) {
            for (int what = 0; what < 3; what++) {
                seen.append(x.cell(cell, what)).append(' ');
            }
        }
        for (int what = 0; what < 3; what++) {
            seen.append(x.pad(what)).append(' ');
        }
        return seen.toString();
    }

    private static void undoingMany() {
        PadPolish x = Checks.told("t0,0;");
        for (int i = 1; i <= 30; i++) {
            x.charge(1, 1);
            Checks.due("acts kept", x.count(5), Math.min(i, 24));
        }
        for (int i = 23; i >= 0; i--) {
            Checks.due("undo", x.undo(), i);
            Checks.pad(x, "undone", 6 + i, 6 + i, 6 + i);
        }
        Checks.due("the oldest are forgotten", x.undo(), PadPolish.STATE);
        Checks.pad(x, "undone", 6, 6, 6);
        for (int i = 1; i <= 50; i++) {
            x.charge(1, 0);
            x.charge(1, 0);
            Checks.due("undo one of two", x.undo(), Math.min(i, 23));
            Checks.due("wet", x.pad(0), Math.min(6 + i, 99));
        }
    }

    private static void images() {
        PadPolish x = Checks.told("t3,9;f0,25;f4,99;s0ewew;c0e;");
        x.charge(50, 50);
        x.make(0);
        String first = state(x);
        Checks.due("image", x.image(0), 1);
        Checks.due("an image is no act", x.count(5), 2);
        x.make(1);
        String second = state(x);
        Checks.due("restore what was not kept", x.restore(1), PadPolish.STATE);
        Checks.due("which changes nothing", x.count(5), 3);
        Checks.due("image", x.image(1), 1);
        Checks.due("another table", Checks.tell(x, "t7,1;f9,9;"), 0);
        Checks.due("restore", x.restore(0), 1);
        Checks.due("as it was", state(x).equals(first) ? 1 : 0, 1);
        Checks.due("passes as they were", x.count(1), 2);
        Checks.due("kinds as they were", x.kind(0) * 10 + x.kind(1), 24);
        Checks.due("sink as it was", x.count(2), 3);
        Checks.due("nothing to be undone", x.undo(), PadPolish.STATE);
        x.make(1);
        Checks.due("makes the same", state(x).equals(second) ? 1 : 0, 1);
        x.rest();
        Checks.due("restore the other", x.restore(1), 1);
        Checks.due("as it was", state(x).equals(second) ? 1 : 0, 1);
        Checks.due("restore again", x.restore(0), 1);
        Checks.due("an image does not change", state(x).equals(first) ? 1 : 0, 1);
        Checks.due("no acts", x.count(5), 0);
        x.stand(0);
        x.image(0);
        Checks.due("an image in place of another", x.restore(0), 1);
        Checks.due("is the later one", x.cell(0, 1), 0);
        for (int k : new int[] {Integer.MIN_VALUE, -1, 2, Integer.MAX_VALUE}) {
            Checks.due("image(" + k + ")", x.image(k), PadPolish.BAD);
            Checks.due("restore(" + k + ")", x.restore(k), PadPolish.BAD);
        }
    }

    private static void counting() {
        PadPolish x = Checks.told("t7,9;f0,25;f4,0;f5,1;g2ee;c0e;");
        Checks.due("passes", x.count(1), 2);
        Checks.due("sink", x.count(2), 7);
        Checks.due("cells with film", x.count(3), 2);
        Checks.due("cells that are soft", x.count(4), 0);
        x.charge(9, 0);
        x.make(0);
        Checks.due("cells with film", x.count(3), 5);
        Checks.due("cells that are soft", x.count(4), 3);
        Checks.due("acts", x.count(5), 2);
        x.feed('x');
        Checks.due("bytes", x.count(6), 1);
        for (int what : new int[] {Integer.MIN_VALUE, -1, 7, Integer.MAX_VALUE}) {
            Checks.due("count(" + what + ")", x.count(what), PadPolish.BAD);
        }
    }
}
