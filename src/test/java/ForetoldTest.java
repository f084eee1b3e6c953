import java.math.BigInteger;
import java.util.Arrays;
import java.util.Random;
import java.util.function.Supplier;

/**
 * Promises 17 to 28. Beside cases worked by hand, what is foretold is compared with what comes of it when it is done
 * by make(), rest(), stand() and charge(), each time on a new object of the same past.
 */
final class ForetoldTest {
    private static final String FIFTEEN =
        "t0,0;f0,1;f1,1;f2,1;f3,1;f4,1;f5,1;f6,3;f7,3;f8,3;f9,3;f10,2;f11,2;f12,2;f13,2;f14,2;";

    public static void main(String[] args) {
        workedOrders();
        workedUneven();
        workedEnough();
        workedWetFor();
        workedOver();
        workedDone();
        workedCupsAndThin();
        dust();
        workedEvenings();
        wrongNumbers();
        againstActs();
        Checks.end();
    }

    private static void workedOrders() {
        PadPolish x = Checks.told("t0,0;g0;g0;g0;g0;");
        x.charge(50, 0);
        Checks.due("all alike", x.order(-1), 12 + 12 + 12 + 11);
        for (int k = 0; k < 4; k++) {
            Checks.due("the first of several", x.order(k), k);
        }
        x = Checks.told("t0,0;f0,9;g0;d5e;");
        x.charge(4, 0);
        Checks.due("the wet is laid elsewhere first", x.order(-1), 9);
        Checks.due("first", x.order(0), 1);
        Checks.due("then", x.order(1), 0);
        Checks.due("no third", x.order(2), PadPolish.NONE);
        Checks.due("no fourth", x.order(3), PadPolish.NONE);
        Checks.due("in order it is more uneven", x.uneven(1), 10);
        x = Checks.told("t0,0;f0,9;");
        Checks.due("no passes", x.order(-1), 9);
        Checks.due("no first", x.order(0), PadPolish.NONE);
    }

    private static void workedUneven() {
        PadPolish x = Checks.told("t0,0;");
        Checks.due("all even", x.uneven(3), 0);
        Checks.due("all even", x.order(-1), 0);
        x = Checks.told(FIFTEEN);
        Checks.due("none is bare", x.uneven(0), 2);
        x = Checks.told("t0,0;f0,99;s0ewewewew;");
        for (int i = 0; i < 20; i++) {
            x.charge(99, 0);
            x.make(0);
            x.rest();
        }
        Checks.due("999 at most", x.cell(0, 0), 999);
        Checks.due("by how much", x.uneven(0), 999);
        x.make(0);
        x.rest();
        for (int i = 0; i < 11; i++) {
            x.make(0);
        }
        Checks.due("no wet, no soft", x.pad(0) + x.cell(0, 1), 0);
        Checks.due("the most uneven", x.order(-1), 999);
        Checks.due("by its only order", x.order(0), 0);
    }

    private static void workedEnough() {
        PadPolish x = Checks.told("t0,0;f0,5;f1,7;g0e;");
        Checks.due("enough now", x.enough(5), 0);
        Checks.due("never", x.enough(6), PadPolish.NONE);
        x.charge(99, 0);
        Checks.due("once", x.enough(29), 1);
        Checks.due("cell 1 has more", x.enough(30), 2);
        x = Checks.told("t0,0;g0;");
        x.charge(99, 0);
        // 99 to 60 wet: four times each of 24 to 15 is laid, 780 together.
        Checks.due("39 times", x.enough(765), 39);
        Checks.due("40 times", x.enough(780), 40);
        Checks.due("41 times are too many", x.enough(781), PadPolish.NONE);
        x = Checks.told("t0,0;f7,3;");
        Checks.due("no cells lack", x.enough(999), 0);
    }

    private static void workedWetFor() {
        PadPolish x = Checks.told("t0,0;f0,5;g0ee;s0;d0;c0;");
        Checks.due("none needed", x.wetFor(0, 0), 0);
        Checks.due("the last cell has 2 wet less", x.wetFor(0, 1), 6);
        Checks.due("at most", x.wetFor(0, 24), 98);
        Checks.due("too much", x.wetFor(0, 25), PadPolish.NONE);
        Checks.due("twice 24", x.wetFor(1, 48), 96);
        Checks.due("twice 25 is too much", x.wetFor(1, 49), PadPolish.NONE);
        Checks.due("a dry pad scratches", x.wetFor(2, 0), 1);
        Checks.due("half", x.wetFor(2, 12), 96);
        Checks.due("half", x.wetFor(2, 13), PadPolish.NONE);
        Checks.due("nothing soft is taken", x.wetFor(3, 0), 0);
        Checks.due("nothing is laid", x.wetFor(3, 1), PadPolish.NONE);
        x.charge(99, 0);
        Checks.due("own wet does not count", x.wetFor(0, 1), 6);
        Checks.due("own wet stays", x.pad(0), 99);
    }

    private static void workedOver() {
        PadPolish x = Checks.told("t0,0;g0e;g1e;g0ee;g5e;");
        Checks.due("none told", x.over(0, 0), 0);
        Checks.due("none told", x.over(0, 1), 0);
        Checks.due("one", x.over(7, 0), 1);
        Checks.due("which", x.over(7, 1), 4);
        Checks.due("the least of several", x.over(2, 1), 1);
        Checks.due("two", x.over(7 + 32, 0), 2);
        Checks.due("which", x.over(7 + 32, 1), 12);
        Checks.due("the least of two", x.over(2 + 64, 1), 9);
        Checks.due("a cell beyond", x.over(8, 0), PadPolish.NONE);
        Checks.due("a cell beyond", x.over(32767, 1), PadPolish.NONE);
        x = Checks.told("t0,0;g0e;g2e;g4;g0eeee;");
        Checks.due("the fewest is not the least", x.over(31, 1), 8);
        x = Checks.told("t0,0;g0;g1;g2;g3;");
        Checks.due("three", x.over(14, 0), 3);
        Checks.due("which", x.over(14, 1), 14);
        Checks.due("all four", x.over(15, 0), 4);
        Checks.due("which", x.over(15, 1), 15);
        x = Checks.told("t0,0;g0e;g2e;g4;g0eeee;");
        Checks.due("the fewest", x.over(31, 0), 1);
    }

    private static void workedDone() {
        PadPolish x = Checks.told("t0,0;f0,50;g0;c0;g1;");
        x.charge(8, 0);
        x.row(0, 2, 40);
        x.set(0, 25, 50);
        Checks.due("nothing, or clearing alone", x.done(0, 25, 0), 2);
        Checks.due("the least", x.done(0, 25, 1), 0);
        x.set(0, 25, 51);
        Checks.due("sliding, then clearing", x.done(0, 25, 0), 1);
        Checks.due("which", x.done(0, 25, 1), 3);
        x.set(0, 26, 1);
        Checks.due("all three", x.done(0, 25, 1), 7);
        x.set(0, 26, 2);
        Checks.due("none", x.done(0, 25, 0), 0);
        Checks.due("none", x.done(0, 25, 1), PadPolish.NONE);
        Checks.due("its status", x.status(), 0);
        Checks.due("beyond the end", x.done(0, 26, 0), Checks.PLACE);
        Checks.due("its status", x.status(), 2);
        Checks.due("ahead of the begin", x.done(0, -1, 0), Checks.PLACE);
        Checks.due("far on", x.done(0, Integer.MAX_VALUE, 0), Checks.PLACE);
        Checks.due("far back", x.done(0, Integer.MIN_VALUE, 0), Checks.PLACE);
        Checks.due("missing", x.done(1, -1, 0), Checks.NULL);
        Checks.due("its status", x.status(), 1);
        Checks.due("BAD what", x.done(1, 0, 2), PadPolish.BAD);
        Checks.due("BAD what", x.done(1, 0, -1), PadPolish.BAD);
        Checks.due("BAD row", x.done(8, 0, 0), PadPolish.BAD);
        Checks.due("BAD row", x.done(-1, 0, 0), PadPolish.BAD);
        Checks.due("BAD leaves the status", x.status(), 1);
        x.row(2, 1, 14);
        Checks.due("too short", x.done(2, 0, 0), Checks.PLACE);
    }

    private static void workedCupsAndThin() {
        PadPolish x = Checks.told("t0,0;f0,50;f1,7;f14,99;");
        Checks.due("none told", x.cups(0, 999), 0);
        Checks.due("what lacks", x.cups(3, 50), 43);
        Checks.due("what lacks", x.cups(16384 + 2 + 4, 51), 44 + 51);
        Checks.due("what lacks in all", x.cups(32767, 999), 15 * 999 - 156);
        Checks.due("least film", x.thin(), 32767 - 16384 - 3);
        Checks.due("the least t", x.cups(7, 1), 1);
        x = Checks.told(FIFTEEN);
        Checks.due("least film", x.thin(), 63);
    }

    private static void dust() {
        for (int p = 0; p <= 10; p++) {
            PadPolish x = new PadPolish();
            for (int n = 0; n <= 10; n++) {
                for (int k = 0; k <= n; k++) {
                    BigInteger above = BigInteger.ZERO;
                    for (int set = 0; set < 1 << n; set++) {
                        int dusty = Integer.bitCount(set);
                        if (dusty >= k) {
                            BigInteger way = BigInteger.valueOf(p).pow(dusty);
                            above = above.add(way.multiply(BigInteger.valueOf(10 - p).pow(n - dusty)));
                        }
                    }
                    BigInteger below = BigInteger.TEN.pow(n);
                    BigInteger common = above.gcd(below);
                    String call = "dust(" + p + ", " + n + ", " + k + ", ";
                    Checks.due(call + "0)", x.dust(p, n, k, 0), above.divide(common).longValueExact());
                    Checks.due(call + "1)", x.dust(p, n, k, 1), below.divide(common).longValueExact());
                }
            }
        }
        PadPolish x = new PadPolish();
        Checks.due("0 is 0 by 1", x.dust(0, 10, 1, 1), 1);
        int[][] wrong = {{-1, 1, 0, 0}, {11, 1, 0, 0}, {1, -1, 0, 0}, {1, 11, 0, 0}, {1, 3, 4, 0}, {1, 3, -1, 0},
            {1, 3, 1, 2}, {1, 3, 1, -1}, {1, -1, -1, 0}};
        for (int[] w : wrong) {
            Checks.due("dust of wrong numbers", x.dust(w[0], w[1], w[2], w[3]), PadPolish.BAD);
        }
    }

    private static void workedEvenings() {
        // 1 becomes 16807, which leaves 0 by 7, 7 by 15; then 282475249, which leaves 0 by 7, 4 by 15.
        PadPolish x = Checks.told("t0,0;f7,30;f4,20;f5,5;");
        Checks.due("none", x.evenings(0, 1, 0), 55);
        Checks.due("none", x.evenings(0, 1, 1), 30);
        Checks.due("one", x.evenings(1, 1, 0), 45);
        Checks.due("one", x.evenings(1, 1, 1), 20);
        Checks.due("two", x.evenings(2, 1, 0), 35);
        x = Checks.told("t0,0;g0;g1;g2;");
        x.charge(40, 0);
        // 16807 leaves 1 by 3; on cell 7 there is nothing to tear.
        Checks.due("pass 1 is made", x.evenings(1, 1, 0), 10);
        // 282475249 leaves 1 by 3.
        Checks.due("pass 1 is made again", x.evenings(2, 1, 1), 19);
    }

    private static void wrongNumbers() {
        PadPolish x = Checks.told("t2,3;f0,5;g0;");
        for (int v : new int[] {Integer.MIN_VALUE, -1, 21, Integer.MAX_VALUE}) {
            Checks.due("ahead(" + v + ")", x.ahead(v, 0, 0), PadPolish.BAD);
            Checks.due("uneven(" + v + ")", x.uneven(v), PadPolish.BAD);
            Checks.due("ahead of cell " + v, x.ahead(0, v, 0), PadPolish.BAD);
            Checks.due("over by " + v, x.over(0, v), PadPolish.BAD);
            Checks.due("evenings by " + v, x.evenings(0, 1, v), PadPolish.BAD);
            Checks.due("wetFor(" + v + ")", x.wetFor(v, 0), PadPolish.BAD);
        }
        Checks.due("ahead by 2", x.ahead(0, 0, 2), PadPolish.BAD);
        Checks.due("ahead by -1", x.ahead(0, 0, -1), PadPolish.BAD);
        Checks.due("ahead of cell 15", x.ahead(0, 15, 0), PadPolish.BAD);
        Checks.due("over by 2", x.over(0, 2), PadPolish.BAD);
        for (int v : new int[] {Integer.MIN_VALUE, -2, 4, Integer.MAX_VALUE}) {
            Checks.due("order(" + v + ")", x.order(v), PadPolish.BAD);
        }
        for (int v : new int[] {Integer.MIN_VALUE, -1, 0, 1000, Integer.MAX_VALUE}) {
            Checks.due("enough(" + v + ")", x.enough(v), PadPolish.BAD);
            Checks.due("cups(0, " + v + ")", x.cups(0, v), PadPolish.BAD);
        }
        for (int v : new int[] {Integer.MIN_VALUE, -1, 100, Integer.MAX_VALUE}) {
            Checks.due("wetFor(0, " + v + ")", x.wetFor(0, v), PadPolish.BAD);
        }
        for (int v : new int[] {Integer.MIN_VALUE, -1, 32768, Integer.MAX_VALUE}) {
            Checks.due("over(" + v + ")", x.over(v, 0), PadPolish.BAD);
            Checks.due("cups(" + v + ")", x.cups(v, 1), PadPolish.BAD);
        }
        for (int v : new int[] {Integer.MIN_VALUE, -1, 31, Integer.MAX_VALUE}) {
            Checks.due("evenings(" + v + ")", x.evenings(v, 1, 0), PadPolish.BAD);
        }
        for (int v : new int[] {Integer.MIN_VALUE, -1, 0, 1000000, Integer.MAX_VALUE}) {
            Checks.due("evenings by seed " + v, x.evenings(0, v, 0), PadPolish.BAD);
        }
        Checks.due("the last that are right", x.evenings(30, 999999, 1) >= 0 ? 1 : 0, 1);
        Checks.due("the last that are right", x.ahead(20, 14, 1), 0);
        Checks.due("evenings by 2", x.evenings(0, 1, 2), PadPolish.BAD);
        Checks.due("no pass 1", x.wetFor(1, 0), PadPolish.BAD);
    }

    private static void againstActs() {
        Random random = new Random(20261118);
        for (int i = 0; i < 150; i++) {
            String text = randomText(random);
            long past = random.nextLong();
            Supplier<PadPolish> fresh = () -> lived(text, new Random(past));
            String where = text + " (" + i + ")";
            compareRounds(fresh, where);
            compareOrder(fresh, where);
            compareEnough(fresh, where, 1 + random.nextInt(200));
            compareWetFor(fresh, where, random.nextInt(50));
            compareGoOn(fresh, where);
            compareDone(fresh, where, random);
            compareEvenings(fresh, where, random);
        }
    }

    static String randomText(Random random) {
        StringBuilder text = new StringBuilder("t" + random.nextInt(10) + "," + random.nextInt(10) + ";");
        for (int cell = 0; cell < 15; cell++) {
            if (random.nextInt(3) == 0) {
                text.append('f').append(cell).append(',').append(random.nextInt(100)).append(';');
            }
        }
        int passes = random.nextInt(5);
        for (int p = 0; p < passes; p++) {
            int cell = random.nextInt(15);
            StringBuilder pass = new StringBuilder().append("gsdcr".charAt(random.nextInt(5))).append(cell);
            int steps = random.nextInt(9);
            for (int s = 0; s < steps; s++) {
                int x = cell % 5;
                int y = cell / 5;
                switch (random.nextInt(4)) {
                    case 0: if (x < 4) { pass.append('e'); cell++; } break;
                    case 1: if (x > 0) { pass.append('w'); cell--; } break;
                    case 2: if (y > 0) { pass.append('n'); cell -= 5; } break;
                    default: if (y < 2) { pass.append('b'); cell += 5; } break;
                }
            }
            if (text.length() + pass.length() + 1 <= 120) {
                text.append(pass).append(';');
            }
        }
        return text.toString();
    }

    private static PadPolish lived(String text, Random random) {
        PadPolish x = Checks.told(text);
        x.charge(random.nextInt(100), random.nextInt(100));
        for (int i = random.nextInt(6); i > 0; i--) {
            x.make(random.nextInt(4));
            if (random.nextInt(4) == 0) {
                x.rest();
            }
            if (random.nextInt(4) == 0) {
                x.charge(random.nextInt(30), random.nextInt(5));
            }
        }
        return x;
    }

    private static PadPolish makeAll(PadPolish x) {
        int passes = x.count(1);
        for (int p = 0; p < passes; p++) {
            x.make(p);
        }
        return x;
    }

    private static void compareRounds(Supplier<PadPolish> fresh, String where) {
        for (int n : new int[] {0, 1, 2, 7, 20}) {
            PadPolish asked = fresh.get();
            PadPolish made = fresh.get();
            for (int round = 0; round < n; round++) {
                makeAll(made);
            }
            for (int cell = 0; cell < 15; cell++) {
                Checks.due(where + ": ahead film", asked.ahead(n, cell, 0), made.cell(cell, 0));
                Checks.due(where + ": ahead haze", asked.ahead(n, cell, 1), made.cell(cell, 2));
            }
            Checks.due(where + ": uneven", asked.uneven(n), Checks.spread(Checks.films(made)));
        }
    }

    private static void compareOrder(Supplier<PadPolish> fresh, String where) {
        PadPolish asked = fresh.get();
        int passes = asked.count(1);
        int[] best = new int[5];
        best[4] = 1000;
        tryOrders(fresh, passes, new int[4], 0, best);
        Checks.due(where + ": order(-1)", asked.order(-1), best[4]);
        for (int k = 0; k < 4; k++) {
            Checks.due(where + ": order(" + k + ")", asked.order(k), k < passes ? best[k] : PadPolish.NONE);
        }
    }

    private static void tryOrders(Supplier<PadPolish> fresh, int passes, int[] order, int length, int[] best) {
        if (length == passes) {
            PadPolish x = fresh.get();
            for (int k = 0; k < passes; k++) {
                x.make(order[k]);
            }
            int uneven = Checks.spread(Checks.films(x));
            if (uneven < best[4]) {
                best[4] = uneven;
                System.arraycopy(order, 0, best, 0, 4);
            }
            return;
        }
        for (int pass = 0; pass < passes; pass++) {
            boolean used = false;
            for (int k = 0; k < length; k++) {
                used |= order[k] == pass;
            }
            if (!used) {
                order[length] = pass;
                tryOrders(fresh, passes, order, length + 1, best);
            }
        }
    }

    private static void compareEnough(Supplier<PadPolish> fresh, String where, int t) {
        int found = PadPolish.NONE;
        for (int rounds = 0; rounds <= 40 && found == PadPolish.NONE; rounds++) {
            PadPolish x = fresh.get();
            for (int round = 0; round < rounds; round++) {
                makeAll(x);
            }
            boolean all = true;
            for (int cell = 0; cell < 15; cell++) {
                all &= x.cell(cell, 3) == 0 || x.cell(cell, 0) >= t;
            }
            if (all) {
                found = rounds;
            }
        }
        Checks.due(where + ": enough(" + t + ")", fresh.get().enough(t), found);
    }

    /** A pad can only be made wetter, so it is first run dry over the table, whose cells it changes. */
    private static PadPolish dried(Supplier<PadPolish> fresh, int pass) {
        PadPolish x = fresh.get();
        for (int i = 0; i < 99 && x.pad(0) > 0; i++) {
            x.make(pass);
        }
        return x;
    }

    private static void compareWetFor(Supplier<PadPolish> fresh, String where, int t) {
        int passes = fresh.get().count(1);
        for (int pass = 0; pass < passes; pass++) {
            int[] ahead = Checks.films(dried(fresh, pass));
            int found = PadPolish.NONE;
            for (int wet = 0; wet <= 99 && found == PadPolish.NONE; wet++) {
                PadPolish x = dried(fresh, pass);
                x.charge(wet, 0);
                x.make(pass);
                boolean all = true;
                for (int k = x.path(pass, -1) - 1; k >= 0; k--) {
                    int cell = x.path(pass, k);
                    all &= x.cell(cell, 0) >= ahead[cell] + t;
                }
                if (all) {
                    found = wet;
                }
            }
            Checks.due(where + ": wetFor(" + pass + ", " + t + ")", dried(fresh, pass).wetFor(pass, t), found);
        }
    }

    private static void compareGoOn(Supplier<PadPolish> fresh, String where) {
        int goingOn = Checks.sum(Checks.films(makeAll(fresh.get())));
        PadPolish x = fresh.get();
        x.rest();
        int rested = Checks.sum(Checks.films(makeAll(x)));
        Checks.due(where + ": goOn()", fresh.get().goOn(), goingOn - rested);
    }

    private static void compareDone(Supplier<PadPolish> fresh, String where, Random random) {
        int passes = fresh.get().count(1);
        int sets = 1 << passes;
        int made = random.nextInt(sets);
        int[][] films = new int[sets][];
        for (int set = 0; set < sets; set++) {
            PadPolish x = fresh.get();
            for (int p = 0; p < passes; p++) {
                if ((set >> p & 1) == 1) {
                    x.make(p);
                }
            }
            films[set] = Checks.films(x);
        }
        int from = random.nextInt(26);
        PadPolish x = fresh.get();
        x.row(3, 1 + random.nextInt(2), 40);
        for (int cell = 0; cell < 15; cell++) {
            x.set(3, from + cell, films[made][cell]);
        }
        int alike = 0;
        int least = PadPolish.NONE;
        for (int set = sets - 1; set >= 0; set--) {
            if (Arrays.equals(films[set], films[made])) {
                alike++;
                least = set;
            }
        }
        Checks.due(where + ": done(0)", x.done(3, from, 0), alike);
        Checks.due(where + ": done(1)", x.done(3, from, 1), least);
    }

    private static void compareEvenings(Supplier<PadPolish> fresh, String where, Random random) {
        int n = random.nextInt(31);
        int seed = 1 + random.nextInt(999999);
        PadPolish x = fresh.get();
        int passes = x.count(1);
        BigInteger draw = BigInteger.valueOf(seed);
        for (int i = 0; i < n; i++) {
            draw = draw.multiply(BigInteger.valueOf(16807)).mod(BigInteger.valueOf(2147483647));
            if (passes > 0) {
                x.make(draw.mod(BigInteger.valueOf(passes)).intValue());
            }
            if (draw.mod(BigInteger.valueOf(7)).signum() == 0) {
                x.stand(draw.mod(BigInteger.valueOf(15)).intValue());
            }
        }
        Checks.due(where + ": evenings film", fresh.get().evenings(n, seed, 0), Checks.sum(Checks.films(x)));
        Checks.due(where + ": evenings uneven", fresh.get().evenings(n, seed, 1), Checks.spread(Checks.films(x)));
    }
}
