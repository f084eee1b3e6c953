import java.util.ArrayList;
import java.util.Arrays;
import java.util.List;
import java.util.Random;

/**
 * Any call with any arguments in any state: none throws, what is refused, found or only asked changes
 * nothing, and what stands always keeps within its bounds.
 */
final class FuzzTest {
    private static final int[] ODD = {Integer.MIN_VALUE, Integer.MIN_VALUE + 1, -1000000, -2, -1, 0, 1, 2, 3, 4, 5, 7,
        8, 14, 15, 20, 21, 30, 31, 39, 40, 41, 98, 99, 100, 255, 256, 998, 999, 1000, 32766, 32767, 32768,
        Integer.MAX_VALUE - 1, Integer.MAX_VALUE};
    private static final String LETTERS = "tfgsdcrewnb0123456789,; z";
    // The numbers that call() has for them.
    private static final int LAST_ACT = 3;
    private static final int FEED = 8;
    private static final int TABLE = 9;
    private static final int FIRST_ASKING = 13;
    private static final int DONE = 22;
    private static final int ASK = 29;
    private static final int CALLS = 35;

    public static void main(String[] args) {
        Random random = new Random(7);
        for (int run = 0; run < 150; run++) {
            run(random);
        }
        for (int run = 0; run < 100; run++) {
            thickFilms(random);
        }
        Checks.end();
    }

    /** Looking takes calls, too, so each step is looked at on an object of its own, which had the same past. */
    private static void run(Random random) {
        List<int[]> past = new ArrayList<>();
        while (past.size() < 300) {
            if (random.nextInt(25) == 0) {
                for (char letter : text(random).toCharArray()) {
                    past.add(new int[] {FEED, letter, 0, 0, 0, 0});
                }
                past.add(new int[] {TABLE, 0, 0, 0, 0, 0});
            } else {
                step(past, random);
            }
        }
        bounds(lived(past));
    }

    private static PadPolish lived(List<int[]> past) {
        PadPolish x = new PadPolish();
        for (int[] one : past) {
            call(x, one);
        }
        return x;
    }

    private static String look(PadPolish x) {
        return Checks.look(x) + x.fault() + "/";
    }

    private static String text(Random random) {
        String text = ForetoldTest.randomText(random);
        if (random.nextInt(3) > 0) {
            return text;
        }
        int place = random.nextInt(text.length());
        char letter = LETTERS.charAt(random.nextInt(LETTERS.length()));
        return text.substring(0, place) + letter + text.substring(place + random.nextInt(2));
    }

    private static int number(Random random) {
        if (random.nextInt(3) == 0) {
            return ODD[random.nextInt(ODD.length)];
        }
        return random.nextInt(random.nextBoolean() ? 5 : 50) - 1;
    }

    private static void step(List<int[]> past, Random random) {
        int[] v = new int[6];
        v[0] = random.nextInt(CALLS);
        for (int i = 1; i < v.length; i++) {
            v[i] = number(random);
        }
        String told = "call " + v[0] + " of " + Arrays.toString(v);
        PadPolish x = lived(past);
        int statusBefore = x.status();
        String before = look(x);
        x = lived(past);
        long answer = call(x, v);
        int status = x.status();
        boolean same = look(x).equals(before);
        boolean refused = answer <= -1000001 && answer >= -1000003;
        boolean found = answer <= -1000011 && answer >= -1000015;
        if (refused || found) {
            Checks.due(told + " was refused; all is as before", same ? 1 : 0, 1);
            Checks.due(told + ": status", status, refused ? statusBefore : -1000010 - answer);
        } else if (v[0] >= FIRST_ASKING && v[0] != DONE && v[0] != ASK) {
            Checks.due(told + " only asks; all is as before", same && status == statusBefore ? 1 : 0, 1);
        }
        if (v[0] <= LAST_ACT && !refused) {
            undone(told, past, v, before);
        }
        past.add(v);
    }

    private static void undone(String told, List<int[]> past, int[] act, String before) {
        PadPolish x = lived(past);
        int acts = x.count(5);
        call(x, act);
        if (acts < 24) {
            x.undo();
            Checks.due(told + " undone", look(x).equals(before) ? 1 : 0, 1);
        }
    }

    private static long call(PadPolish x, int[] v) {
        switch (v[0]) {
            case 0: return x.charge(v[1], v[2]);
            case 1: return x.make(v[1]);
            case 2: return x.stand(v[1]);
            case LAST_ACT: return x.rest();
            case 4: return x.row(v[1], v[2], v[3]);
            case 5: return x.set(v[1], v[2], v[3]);
            case 6: return x.copy(v[1], v[2], v[3], v[4], v[5]);
            case 7: return x.drop(v[1]);
            case FEED: return x.feed(v[1]);
            case TABLE: return x.table();
            case 10: return x.undo();
            case 11: return x.restore(v[1]);
            case 12: return x.as(v[1], v[2]);
            case FIRST_ASKING: return x.cell(v[1], v[2]);
            case 14: return x.path(v[1], v[2]);
            case 15: return x.pad(v[1]);
            case 16: return x.ahead(v[1], v[2], v[3]);
            case 17: return x.uneven(v[1]);
            case 18: return x.order(v[1]);
            case 19: return x.enough(v[1]);
            case 20: return x.wetFor(v[1], v[2]);
            case 21: return x.over(v[1], v[2]);
            case DONE: return x.done(v[1], v[2], v[3]);
            case 23: return x.goOn();
            case 24: return x.cups(v[1], v[2]);
            case 25: return x.thin();
            case 26: return x.dust(v[1], v[2], v[3], v[4]);
            case 27: return x.evenings(v[1], v[2], v[3]);
            case 28: return x.image(v[1]);
            case ASK: return x.ask(v[1], v[2]);
            case 30: return x.kind(v[1]);
            case 31: return x.trace(v[1]);
            case 32: return x.count(v[1]);
            case 33: return x.status();
            default: return x.fault();
        }
    }

    private static void bounds(PadPolish x) {
        if (x.thin() == PadPolish.STATE) {
            return;
        }
        for (int cell = 0; cell < 15; cell++) {
            int film = x.cell(cell, 0);
            int soft = x.cell(cell, 1);
            int haze = x.cell(cell, 2);
            boolean within = film >= 0 && film <= 999 && soft >= 0 && soft <= film && haze >= 0 && haze <= 99;
            Checks.due("film " + film + ", soft " + soft + ", haze " + haze, within ? 1 : 0, 1);
        }
        boolean within = x.pad(0) >= 0 && x.pad(0) <= 99 && x.pad(1) >= 0 && x.pad(1) <= 99 && x.pad(2) >= 0;
        Checks.due("the pad", within ? 1 : 0, 1);
    }

    /** Films as thick as can be, which short runs do not reach. */
    private static void thickFilms(Random random) {
        PadPolish x = Checks.told(ForetoldTest.randomText(random));
        for (int n = 0; n < 100; n++) {
            x.charge(99, random.nextInt(100));
            x.make(random.nextInt(4));
            if (random.nextInt(20) == 0) {
                x.stand(random.nextInt(15));
            }
        }
        bounds(x);
    }
}
