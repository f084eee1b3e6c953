import java.util.Random;

/**
 * Any call with any arguments in any state: none throws, what is refused, found or only asked changes
 * nothing, and what stands always keeps within its bounds.
 */
final class FuzzTest {
    private static final int[] ODD = {Integer.MIN_VALUE, Integer.MIN_VALUE + 1, -1000000, -2, -1, 0, 1, 2, 3, 4, 5, 7,
        8, 14, 15, 20, 21, 30, 31, 39, 40, 41, 98, 99, 100, 255, 256, 998, 999, 1000, 32766, 32767, 32768,
        Integer.MAX_VALUE - 1, Integer.MAX_VALUE};
    private static final String LETTERS = "tfgsdcrewnb0123456789,; z";
    // The numbers that call() has for them.
    private static final int LAST_ACT = 3;
    private static final int FIRST_ASKING = 13;
    private static final int DONE = 22;
    private static final int ASK = 29;
    private static final int CALLS = 35;

    public static void main(String[] args) {
        Random random = new Random(7);
        for (int run = 0; run < 400; run++) {
            PadPolish x = new PadPolish();
            for (int n = 0; n < 150; n++) {
                if (random.nextInt(25) == 0) {
                    Checks.tell(x, text(random));
                } else {
                    step(x, random);
                }
            }
            bounds(x);
        }
        deep(random);
        Checks.end();
    }

    private static String text(Random random) {
        String text = ForetoldTest.randomText(random);
        if (random.nextInt(3) > 0) {
            return text;
        }
        int place = random.nextInt(text.length());
        char letter = LETTERS.charAt(random.nextInt(LETTERS.length()));
        return text.substring(0, place) + letter + text.substring(place + random.nextInt(2));
    }

    private static int number(Random random) {
        if (random.nextInt(3) == 0) {
            return ODD[random.nextInt(ODD.length)];
        }
        return random.nextInt(random.nextBoolean() ? 5 : 50) - 1;
    }

    private static void step(PadPolish x, Random random) {
        int call = random.nextInt(CALLS);
        int[] v = new int[5];
        for (int i = 0; i < v.length; i++) {
            v[i] = number(random);
        }
        String before = Checks.look(x) + x.status();
        long answer = call(x, call, v);
        String behind = Checks.look(x) + x.status();
        String told = "call " + call + " of " + java.util.Arrays.toString(v);
        boolean refused = answer <= -1000001 && answer >= -1000003;
        boolean found = answer <= -1000011 && answer >= -1000015;
        if (refused) {
            Checks.due(told + " was refused; all is as before", behind.equals(before) ? 1 : 0, 1);
        } else if (found) {
            Checks.due(told + " found it: status", x.status(), -1000010 - answer);
            String lookBefore = before.substring(0, before.indexOf(']'));
            Checks.due(told + ": all is as before", behind.startsWith(lookBefore) ? 1 : 0, 1);
        } else if (call >= FIRST_ASKING && call != DONE && call != ASK) {
            Checks.due(told + " only asks; all is as before", behind.equals(before) ? 1 : 0, 1);
        }
        if (call <= LAST_ACT && !refused && x.count(5) < 24 && random.nextInt(3) == 0) {
            x.undo();
            Checks.due(told + " undone", (Checks.look(x) + x.status()).equals(before) ? 1 : 0, 1);
        }
    }

    private static long call(PadPolish x, int call, int[] v) {
        switch (call) {
            case 0: return x.charge(v[0], v[1]);
            case 1: return x.make(v[0]);
            case 2: return x.stand(v[0]);
            case LAST_ACT: return x.rest();
            case 4: return x.row(v[0], v[1], v[2]);
            case 5: return x.set(v[0], v[1], v[2]);
            case 6: return x.copy(v[0], v[1], v[2], v[3], v[4]);
            case 7: return x.drop(v[0]);
            case 8: return x.feed(v[0]);
            case 9: return x.table();
            case 10: return x.undo();
            case 11: return x.restore(v[0]);
            case 12: return x.as(v[0], v[1]);
            case FIRST_ASKING: return x.cell(v[0], v[1]);
            case 14: return x.path(v[0], v[1]);
            case 15: return x.pad(v[0]);
            case 16: return x.ahead(v[0], v[1], v[2]);
            case 17: return x.uneven(v[0]);
            case 18: return x.order(v[0]);
            case 19: return x.enough(v[0]);
            case 20: return x.wetFor(v[0], v[1]);
            case 21: return x.over(v[0], v[1]);
            case DONE: return x.done(v[0], v[1], v[2]);
            case 23: return x.goOn();
            case 24: return x.cups(v[0], v[1]);
            case 25: return x.thin();
            case 26: return x.dust(v[0], v[1], v[2], v[3]);
            case 27: return x.evenings(v[0], v[1], v[2]);
            case 28: return x.image(v[0]);
            case ASK: return x.ask(v[0], v[1]);
            case 30: return x.kind(v[0]);
            case 31: return x.trace(v[0]);
            case 32: return x.count(v[0]);
            case 33: return x.status();
            default: return x.fault();
        }
    }

    private static void bounds(PadPolish x) {
        if (x.thin() == PadPolish.STATE) {
            return;
        }
        for (int cell = 0; cell < 15; cell++) {
            int film = x.cell(cell, 0);
            int soft = x.cell(cell, 1);
            int haze = x.cell(cell, 2);
            boolean within = film >= 0 && film <= 999 && soft >= 0 && soft <= film && haze >= 0 && haze <= 99;
            Checks.due("film " + film + ", soft " + soft + ", haze " + haze, within ? 1 : 0, 1);
        }
        boolean within = x.pad(0) >= 0 && x.pad(0) <= 99 && x.pad(1) >= 0 && x.pad(1) <= 99 && x.pad(2) >= 0;
        Checks.due("the pad", within ? 1 : 0, 1);
    }

    /** Thick films on every cell, which short runs do not reach. */
    private static void deep(Random random) {
        for (int run = 0; run < 100; run++) {
            PadPolish x = Checks.told(ForetoldTest.randomText(random));
            for (int n = 0; n < 200; n++) {
                x.charge(99, random.nextInt(100));
                x.make(random.nextInt(4));
                if (random.nextInt(20) == 0) {
                    bounds(x);
                    x.stand(random.nextInt(15));
                }
            }
            bounds(x);
        }
    }
}
