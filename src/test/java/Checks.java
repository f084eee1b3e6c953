import java.util.ArrayList;
import java.util.List;

/** What the tests share: counting wrong answers, telling texts, looking at all of an object. */
final class Checks {
    static final int NULL = -1000011;
    static final int PLACE = -1000012;
    static final int KIND = -1000013;
    static final int SIZE = -1000014;
    static final int STORE = -1000015;

    private static int wrong;

    private Checks() {
    }

    static void due(String call, long got, long want) {
        if (got != want) {
            wrong++;
            System.out.println(call + " answered " + got + ", due is " + want);
        }
    }

    static void end() {
        System.out.println(wrong == 0 ? "all answers are as due" : wrong + " answers are not as due");
        if (wrong != 0) {
            System.exit(1);
        }
    }

    static void feed(PadPolish x, String text) {
        for (int i = 0; i < text.length(); i++) {
            x.feed(text.charAt(i));
        }
    }

    /** Feeds a text and reads it; gives what table() answers. */
    static int tell(PadPolish x, String text) {
        feed(x, text);
        return x.table();
    }

    static PadPolish told(String text) {
        PadPolish x = new PadPolish();
        int answer = tell(x, text);
        if (answer < 0) {
            due("table() of " + text, answer, 0);
        }
        return x;
    }

    static void film(PadPolish x, String where, int cell, int film, int soft, int haze) {
        due(where + ": cell(" + cell + ", 0)", x.cell(cell, 0), film);
        due(where + ": cell(" + cell + ", 1)", x.cell(cell, 1), soft);
        due(where + ": cell(" + cell + ", 2)", x.cell(cell, 2), haze);
    }

    static void pad(PadPolish x, String where, int wet, int oil, int spent) {
        due(where + ": pad(0)", x.pad(0), wet);
        due(where + ": pad(1)", x.pad(1), oil);
        due(where + ": pad(2)", x.pad(2), spent);
    }

    static int[] films(PadPolish x) {
        int[] films = new int[15];
        for (int cell = 0; cell < 15; cell++) {
            films[cell] = x.cell(cell, 0);
        }
        return films;
    }

    /** A text without passes that tells FILM of the first cells. */
    static String filmText(int... films) {
        StringBuilder text = new StringBuilder("t0,0;");
        for (int cell = 0; cell < films.length; cell++) {
            text.append('f').append(cell).append(',').append(films[cell]).append(';');
        }
        return text.toString();
    }

    static int sum(int[] values) {
        int sum = 0;
        for (int value : values) {
            sum += value;
        }
        return sum;
    }

    static int spread(int[] values) {
        int least = values[0];
        int most = values[0];
        for (int value : values) {
            least = Math.min(least, value);
            most = Math.max(most, value);
        }
        return most - least;
    }

    /** All that can be asked of an object without changing it, but for fault() and status(): 142 calls. */
    static String look(PadPolish x) {
        List<Long> seen = new ArrayList<>();
        for (int cell = 0; cell < 15; cell++) {
            for (int what = 0; what < 4; what++) {
                seen.add((long) x.cell(cell, what));
            }
        }
        for (int what = 0; what < 3; what++) {
            seen.add((long) x.pad(what));
        }
        for (int what = 0; what < 7; what++) {
            seen.add((long) x.count(what));
        }
        for (int pass = 0; pass < 5; pass++) {
            seen.add((long) x.kind(pass));
            for (int k = -1; k < 9; k++) {
                seen.add((long) x.path(pass, k));
            }
        }
        for (int i = 0; i < 17; i++) {
            seen.add((long) x.trace(i));
        }
        return seen.toString();
    }
}
