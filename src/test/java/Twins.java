import java.util.List;
import java.util.function.Consumer;
import java.util.function.Function;
import java.util.function.ToLongFunction;

/**
 * What a call leaves as it was: two objects of the same past, one of which had that call too, are looked at from
 * all sides. Each side has a pair of its own, because looking may change the object, and because an object is
 * promised 512 calls only.
 */
final class Twins {
    /** As long as the tape can be: 120 bytes, all cells, four passes. */
    static final String LONGEST = "t5,5;f0,11;f1,12;f2,13;f3,14;f4,15;f5,16;f6,17;f7,18;f8,19;f9,20;"
        + "f10,21;f11,22;f12,23;f13,24;f14,25;g0ewew;s0e;d0;c14nn;";

    static final String ON_TAPE = "t5,5;f3,3;g3;";

    private static final String TABLE = "t2,8;f0,50;f6,20;g0eeb;s6w;c0e;d9w;";
    private static final List<Function<PadPolish, String>> SIDES = List.of(
        Checks::look,
        x -> "fault " + x.fault(),
        Twins::acts,
        x -> x.restore(0) + Checks.look(x),
        x -> x.restore(1) + Checks.look(x),
        Twins::lanesAndLengths,
        x -> x.table() + Checks.look(x) + x.fault(),
        x -> items(x, 0, 0, 1),
        x -> items(x, 0, 15, 16),
        x -> items(x, 0, 25, 26),
        x -> items(x, 1, 0, 51),
        x -> items(x, 2, 0, 71),
        x -> items(x, 2, 5, 76));

    private Twins() {
    }

    /** No table, but rows of each lane and an empty one, bytes on the tape, a fault, a finding. */
    static void tableless(PadPolish x) {
        withRows(x, ON_TAPE);
    }

    /** The same with a table, an image, six acts, a trace. */
    static void full(PadPolish x) {
        withTable(x);
        tableless(x);
    }

    /** The same with as many acts as can be undone. */
    static void busy(PadPolish x) {
        full(x);
        for (int i = 0; i < 18; i++) {
            x.charge(1, 1);
        }
    }

    /** The same with as many bytes on the tape as there is room for. */
    static void crammed(PadPolish x) {
        withTable(x);
        withRows(x, LONGEST);
    }

    private static void withTable(PadPolish x) {
        Checks.tell(x, TABLE);
        x.charge(40, 9);
        x.make(0);
        x.make(1);
        x.image(0);
        x.stand(0);
        x.rest();
        x.make(2);
        x.ask(1, 0);
    }

    private static void withRows(PadPolish x, String onTape) {
        Checks.tell(x, "t10");
        fill(x, 0, 0, 40, 1);
        fill(x, 1, 1, 15, 51);
        fill(x, 2, 2, 20, 71);
        x.row(7, 0, 0);
        Checks.feed(x, onTape);
        x.row(6, 0, -1);
    }

    private static void fill(PadPolish x, int row, int lane, int n, int first) {
        x.row(row, lane, n);
        for (int i = 0; i < n; i++) {
            x.set(row, i, first + i);
        }
    }

    /** It answers what is due, BAD, STATE or FULL, and changes nothing. */
    static void refused(String call, Consumer<PadPolish> past, ToLongFunction<PadPolish> asked, long due) {
        PadPolish x = after(past);
        int status = x.status();
        Checks.due(call, asked.applyAsLong(x), due);
        Checks.due("status() behind " + call, x.status(), status);
        unchanged(call, past, asked);
    }

    /** It answers a finding, of which status() then tells the number, and changes nothing else. */
    static void found(String call, Consumer<PadPolish> past, ToLongFunction<PadPolish> asked, int finding) {
        PadPolish x = after(past);
        Checks.due(call, asked.applyAsLong(x), finding);
        Checks.due("status() behind " + call, x.status(), -1000010 - finding);
        unchanged(call, past, asked);
    }

    /** It answers, and changes nothing, status() too. */
    static void asks(String call, Consumer<PadPolish> past, ToLongFunction<PadPolish> asked) {
        PadPolish x = after(past);
        int status = x.status();
        asked.applyAsLong(x);
        Checks.due("status() behind " + call, x.status(), status);
        unchanged(call, past, asked);
    }

    /** It changes nothing, but for status(). */
    static void unchanged(String call, Consumer<PadPolish> past, ToLongFunction<PadPolish> asked) {
        for (Function<PadPolish, String> side : SIDES) {
            PadPolish one = after(past);
            PadPolish other = after(past);
            asked.applyAsLong(other);
            String before = side.apply(one);
            String behind = side.apply(other);
            if (!before.equals(behind)) {
                Checks.due(call + " changed something: " + before + " became " + behind, 1, 0);
            }
        }
    }

    /** The sides that look at items see them in a past with rows: else they could not see a change. */
    static void checkItemsAreSeen() {
        int seen = 0;
        for (Function<PadPolish, String> side : SIDES) {
            seen += side.apply(after(Twins::crammed)).equals("1") ? 1 : 0;
        }
        Checks.due("sides that look at items", seen, 6);
    }

    static PadPolish after(Consumer<PadPolish> past) {
        PadPolish x = new PadPolish();
        past.accept(x);
        return x;
    }

    /** All acts are undone one by one. */
    private static String acts(PadPolish x) {
        StringBuilder seen = new StringBuilder();
        for (int i = 0; i < 25; i++) {
            seen.append(x.undo()).append(':').append(x.pad(0)).append(',').append(x.pad(1)).append(',');
            seen.append(x.pad(2)).append(',').append(x.uneven(0)).append(',').append(x.cups(32767, 999)).append(',');
            seen.append(x.count(3)).append(',').append(x.count(4)).append(',').append(x.cell(0, 2)).append(' ');
        }
        return seen.toString();
    }

    private static String lanesAndLengths(PadPolish x) {
        StringBuilder seen = new StringBuilder();
        for (int a = 0; a < 8; a++) {
            for (int b = 0; b < a; b++) {
                seen.append(x.copy(a, 0, b, 0, 0)).append(' ');
            }
        }
        for (int row = 0; row < 8; row++) {
            seen.append(x.drop(row)).append(' ');
        }
        return seen.toString();
    }

    /** No call reads an item, but on a table without passes done() answers 1 where 15 of them tell its FILM. */
    private static String items(PadPolish x, int row, int from, int first) {
        x.table();
        int[] films = new int[15];
        for (int cell = 0; cell < 15; cell++) {
            films[cell] = first + cell;
        }
        Checks.tell(x, Checks.filmText(films));
        return String.valueOf(x.done(row, from, 0));
    }
}
