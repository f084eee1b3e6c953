import java.lang.reflect.InvocationTargetException;
import java.lang.reflect.Method;
import java.util.ArrayList;
import java.util.Arrays;
import java.util.HashMap;
import java.util.List;
import java.util.Map;
import java.util.Random;
import java.util.TreeMap;
import java.util.TreeSet;

/** All promises: runs of up to 512 calls by draws, each answer held against that of the second reading. */
final class SecondReadingTest {
    private static final int RUNS = 1500;
    private static final int CALLS = 512;
    private static final String[] ACTS = {"charge", "charge", "make", "make", "make", "make", "stand", "rest", "undo"};
    private static final Map<String, Method> METHODS = new HashMap<>();
    /** By call: how many were answered with something else than a refusal, a finding or NONE. */
    private static final Map<String, Integer> ANSWERED = new TreeMap<>();

    private final Random random;
    private final PadPolish polish = new PadPolish();
    private final SecondReading second = new SecondReading();
    private final List<String> calls = new ArrayList<>(new TreeSet<>(SecondReading.calls()));
    private final List<String> past = new ArrayList<>();
    /** A run that is thirsty charges the pad often, and comes to films as thick as can be. */
    private final boolean thirsty;

    private SecondReadingTest(int run) {
        random = new Random(run);
        thirsty = random.nextInt(4) == 0;
    }

    public static void main(String[] args) {
        for (Method method : PadPolish.class.getMethods()) {
            if (method.getDeclaringClass() == PadPolish.class) {
                METHODS.put(method.getName(), method);
            }
        }
        Checks.due("calls of the second reading", SecondReading.calls().equals(METHODS.keySet()) ? 1 : 0, 1);
        for (int run = 0; run < RUNS; run++) {
            new SecondReadingTest(run).run();
        }
        for (String call : METHODS.keySet()) {
            Checks.due(call + " was answered often enough", ANSWERED.getOrDefault(call, 0) > 300 ? 1 : 0, 1);
        }
        Checks.end();
    }

    private void run() {
        boolean same = random.nextInt(10) == 0 || tell();
        while (same && past.size() < CALLS) {
            same = step();
        }
    }

    private boolean step() {
        switch (random.nextInt(thirsty ? 60 : 90)) {
            case 0:
                return tell();
            case 1: case 2:
                return tellFilm();
            case 3:
                return askAndTrace();
            case 4:
                return manyRounds();
            default:
                boolean act = random.nextInt(3) == 0 || thirsty && random.nextInt(3) > 0;
                return drawn(act ? ACTS[random.nextInt(ACTS.length)] : calls.get(random.nextInt(calls.size())));
        }
    }

    private boolean tell() {
        boolean same = true;
        for (char letter : text().toCharArray()) {
            same = same && made("feed", (int) letter);
        }
        return same && made("table");
    }

    private String text() {
        String text = ForetoldTest.randomText(random);
        int place = random.nextInt(text.length());
        switch (random.nextInt(16)) {
            case 0: case 1: case 2:
                return text.substring(0, place) + "tfgrew09,;!".charAt(random.nextInt(11)) + text.substring(place + 1);
            case 3:
                return "t0,0;g7ewewewew" + (random.nextBoolean() ? ";" : "e;");
            case 4:
                return text + "g0;".repeat(random.nextInt(45));
            case 5: case 6:
                return noCellBare() + text.replaceFirst("^[tf0-9,;]*", "");
            default:
                return text;
        }
    }

    private String noCellBare() {
        StringBuilder text = new StringBuilder("t1,8;");
        for (int cell = 0; cell < 15; cell++) {
            text.append('f').append(cell).append(',').append(1 + random.nextInt(9)).append(';');
        }
        return text.toString();
    }

    /** Of a table with one pass over one cell, as it takes many rounds to be enough there. */
    private boolean manyRounds() {
        boolean same = true;
        for (char letter : "t0,0;g7;".toCharArray()) {
            same = same && made("feed", (int) letter);
        }
        same = same && made("table") && made("charge", 50 + random.nextInt(50), 0);
        for (int i = 0; i < 8; i++) {
            same = same && made("enough", 700 + random.nextInt(300));
        }
        return same;
    }

    /** A row tells FILM as it is when some passes, drawn, are made; done() finds their set. */
    private boolean tellFilm() {
        int row = random.nextInt(8);
        int from = random.nextInt(4);
        boolean same = made("row", row, 2, 15 + from + random.nextInt(3)) && made("image", 1);
        for (int pass = 0; pass < 4; pass++) {
            same = same && (random.nextBoolean() || made("make", pass));
        }
        for (int cell = 0; cell < 15; cell++) {
            same = same && made("set", row, from + cell, (int) second.call("cell", cell, 0));
        }
        return same && made("restore", 1) && made("done", row, from, 0) && made("done", row, from, 1)
            && copyFilm(row, from);
    }

    /** No call reads an item, but done() tells whether a copy brought what it should, onto itself too. */
    private boolean copyFilm(int row, int from) {
        int other = random.nextInt(8);
        int to = random.nextInt(5);
        boolean same = other == row || made("row", other, random.nextInt(6) == 0 ? 1 : 2, 20);
        return same && made("copy", row, from, other, to, 15) && made("done", other, to, 0)
            && made("done", other, to, 1) && made("done", row, from, 0);
    }

    /** One number more than the longest that an ask leaves. */
    private boolean askAndTrace() {
        boolean same = drawn("ask");
        for (int i = 0; i < 7; i++) {
            same = same && made("trace", i);
        }
        return same;
    }

    private boolean drawn(String call) {
        int[] v = new int[METHODS.get(call).getParameterCount()];
        for (int i = 0; i < v.length; i++) {
            v[i] = number(second.bounds(call, Arrays.copyOf(v, i + 1))[i]);
        }
        if (thirsty && call.equals("charge")) {
            v[0] = 99;
        }
        return made(call, v);
    }

    /** Mostly as told; else at the edge, beyond it, or as far off as can be. */
    private int number(int[] bounds) {
        int least = Math.max(bounds[0], -2);
        int most = Math.min(bounds[1], least + 45);
        switch (random.nextInt(30)) {
            case 0: return bounds[0];
            case 1: return bounds[1];
            case 2: return bounds[0] - 1;
            case 3: return bounds[1] + 1;
            case 4: return random.nextInt();
            case 5: case 6: case 7: case 8: case 9: case 10:
                return least + random.nextInt((int) Math.max(1, Math.min(bounds[1], 1000000L) - least + 1));
            default: return least + random.nextInt(Math.max(1, most - least + 1));
        }
    }

    /** Makes the call on both; whether they answer alike. Behind the last call that is promised nothing is made. */
    private boolean made(String call, int... v) {
        if (past.size() >= CALLS) {
            return false;
        }
        past.add(call + Arrays.toString(v));
        long due = second.call(call, v);
        long got = answer(call, v);
        if (got > -1000000) {
            ANSWERED.merge(call, 1, Integer::sum);
        }
        if (got != due) {
            Checks.due(past.toString(), got, due);
        }
        return got == due;
    }

    private long answer(String call, int... v) {
        try {
            Object[] boxed = Arrays.stream(v).boxed().toArray();
            return ((Number) METHODS.get(call).invoke(polish, boxed)).longValue();
        } catch (InvocationTargetException thrown) {
            throw new IllegalStateException(past.toString(), thrown.getCause());
        } catch (IllegalAccessException closed) {
            throw new IllegalStateException(call, closed);
        }
    }
}
