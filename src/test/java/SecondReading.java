import java.math.BigInteger;
import java.util.ArrayDeque;
import java.util.ArrayList;
import java.util.Collections;
import java.util.Comparator;
import java.util.Deque;
import java.util.HashMap;
import java.util.List;
import java.util.Map;
import java.util.Set;
import java.util.regex.Matcher;
import java.util.regex.Pattern;
import java.util.stream.Collectors;
import java.util.stream.IntStream;

/**
 * The document read a second time, from its first line, and written another way than the class: what stands never
 * changes but is made anew, refusals come from one list of bounds, bodies from a list of numbers, dust is counted
 * case by case. It is slow, and uses what it likes of the Java library.
 */
final class SecondReading {
    private static final int NONE = -1000000, BAD = -1000001, STATE = -1000002, FULL = -1000003;
    private static final int NULL = 1, PLACE = 2, KIND = 3, SIZE = 4, STORE = 5;
    private static final int LEAST = Integer.MIN_VALUE, MOST = Integer.MAX_VALUE;
    private static final int[] ANY = {LEAST, MOST};
    private static final int[] WHAT = {0, 1};
    private static final int[] ROW = {0, 7};
    private static final int[] CELL = {0, 14};
    private static final int[] CELLS = {0, 32767};
    /** Stands for the bounds of PASSES, which go with the table. */
    private static final int[] PASS = {};
    /** Stands for the bounds of k, which go with n. */
    private static final int[] UP_TO_THE_ONE_BEFORE = {};

    private static final Map<String, int[][]> BOUNDS = new HashMap<>();

    static {
        BOUNDS.put("row", new int[][] {ROW, {0, 2}, {LEAST, 40}});
        BOUNDS.put("set", new int[][] {ROW, ANY, ANY});
        BOUNDS.put("copy", new int[][] {ROW, ANY, ROW, ANY, ANY});
        BOUNDS.put("drop", new int[][] {ROW});
        BOUNDS.put("feed", new int[][] {{0, 255}});
        BOUNDS.put("table", new int[][] {});
        BOUNDS.put("fault", new int[][] {});
        BOUNDS.put("undo", new int[][] {});
        BOUNDS.put("charge", new int[][] {{0, 99}, {0, 99}});
        BOUNDS.put("make", new int[][] {PASS});
        BOUNDS.put("stand", new int[][] {CELL});
        BOUNDS.put("rest", new int[][] {});
        BOUNDS.put("cell", new int[][] {CELL, {0, 3}});
        BOUNDS.put("path", new int[][] {PASS, {-1, MOST}});
        BOUNDS.put("pad", new int[][] {{0, 2}});
        BOUNDS.put("ahead", new int[][] {{0, 20}, CELL, WHAT});
        BOUNDS.put("uneven", new int[][] {{0, 20}});
        BOUNDS.put("order", new int[][] {{-1, 3}});
        BOUNDS.put("enough", new int[][] {{1, 999}});
        BOUNDS.put("wetFor", new int[][] {PASS, {0, 99}});
        BOUNDS.put("over", new int[][] {CELLS, WHAT});
        BOUNDS.put("goOn", new int[][] {});
        BOUNDS.put("done", new int[][] {ROW, ANY, WHAT});
        BOUNDS.put("cups", new int[][] {CELLS, {1, 999}});
        BOUNDS.put("thin", new int[][] {});
        BOUNDS.put("dust", new int[][] {{0, 10}, {0, 10}, UP_TO_THE_ONE_BEFORE, WHAT});
        BOUNDS.put("evenings", new int[][] {{0, 30}, {1, 999999}, WHAT});
        BOUNDS.put("image", new int[][] {{0, 1}});
        BOUNDS.put("restore", new int[][] {{0, 1}});
        BOUNDS.put("kind", new int[][] {PASS});
        BOUNDS.put("as", new int[][] {PASS, {0, 5}});
        BOUNDS.put("ask", new int[][] {PASS, {0, 1}});
        BOUNDS.put("trace", new int[][] {ANY});
        BOUNDS.put("count", new int[][] {{0, 6}});
        BOUNDS.put("status", new int[][] {});
    }

    /** "STATE: no TABLE (ahead of BAD)", and the three calls that have nothing that could be BAD. */
    private static final Set<String> OF_A_TABLE = Set.of("charge", "stand", "rest", "cell", "pad", "ahead", "uneven",
        "order", "enough", "over", "goOn", "done", "cups", "thin", "evenings");

    private record Cell(int film, int soft, int haze) {
    }

    private record Board(List<Cell> cells, int wet, int oil, int spent) {
        Board with(int at, Cell cell, int newWet) {
            List<Cell> changed = new ArrayList<>(cells);
            changed.set(at, cell);
            return new Board(changed, newWet, oil, spent);
        }

        int film(int at) {
            return cells.get(at).film;
        }

        List<Integer> films() {
            return cells.stream().map(Cell::film).collect(Collectors.toList());
        }

        int allFilm() {
            return films().stream().mapToInt(Integer::intValue).sum();
        }

        int uneven() {
            return Collections.max(films()) - Collections.min(films());
        }
    }

    private record Way(int kind, List<Integer> cells) {
    }

    private record Told(int sink, List<Way> ways, Board board) {
        Told with(Board other) {
            return new Told(sink, ways, other);
        }
    }

    private record Items(int bits, List<Integer> values) {
    }

    private final Map<Integer, Items> rows = new HashMap<>();
    private final StringBuilder tape = new StringBuilder();
    private final Deque<Board> acts = new ArrayDeque<>();
    private final Told[] images = new Told[2];
    private final List<Integer> trace = new ArrayList<>();
    private Told told;
    private int fault;
    private int status;

    static Set<String> calls() {
        return BOUNDS.keySet();
    }

    /** From where to where each number of a call goes; as told in the document, or all numbers. */
    int[][] bounds(String call, int... v) {
        int[][] bounds = BOUNDS.get(call).clone();
        for (int i = 0; i < bounds.length; i++) {
            if (bounds[i] == PASS) {
                bounds[i] = new int[] {0, told == null ? -1 : told.ways.size() - 1};
            } else if (bounds[i] == UP_TO_THE_ONE_BEFORE) {
                bounds[i] = new int[] {0, v.length > i ? v[i - 1] : 10};
            }
        }
        return bounds;
    }

    long call(String call, int... v) {
        if (told == null && OF_A_TABLE.contains(call)) {
            return STATE;
        }
        int[][] bounds = bounds(call, v);
        for (int i = 0; i < v.length; i++) {
            if (v[i] < bounds[i][0] || v[i] > bounds[i][1]) {
                return BAD;
            }
        }
        switch (call) {
            case "row": case "set": case "copy": case "drop": case "done": case "as":
                return withStatus(call, v);
            case "feed": case "table": case "fault": case "undo": case "charge": case "make": case "stand": case "rest":
            case "image": case "restore":
                return changed(call, v);
            case "cell": case "path": case "pad": case "kind": case "ask": case "trace": case "count": case "status":
                return asked(call, v);
            default:
                return foretold(call, v);
        }
    }

    // ---- calls that status() tells of: a finding is less than -1000010 by its number

    private long withStatus(String call, int... v) {
        long answer = rowCall(call, v);
        boolean isFinding = answer < -1000010 && answer >= -1000015;
        status = isFinding ? (int) (-1000010 - answer) : 0;
        return answer;
    }

    private long rowCall(String call, int... v) {
        Items items = rows.get(v[0]);
        switch (call) {
            case "row":
                if (v[2] < 0) {
                    return -1000010 - SIZE;
                }
                rows.put(v[0], new Items(8 << v[1], new ArrayList<>(Collections.nCopies(v[2], 0))));
                return v[2];
            case "set":
                if (items == null) {
                    return -1000010 - NULL;
                }
                if (v[1] < 0 || v[1] >= items.values.size()) {
                    return -1000010 - PLACE;
                }
                items.values.set(v[1], v[2] << (32 - items.bits) >> (32 - items.bits));
                return items.values.get(v[1]);
            case "copy":
                return copied(items, v[1], rows.get(v[2]), v[3], v[4]);
            case "drop":
                return rows.remove(v[0]) == null ? -1000010 - NULL : items.values.size();
            case "done":
                return items == null ? -1000010 - NULL : done(items.values, v[1], v[2]);
            default:
                return isOne(told.ways.get(v[0]).kind, v[1]) ? v[0] : -1000010 - KIND;
        }
    }

    private static long copied(Items from, long i, Items to, long j, long n) {
        if (from == null || to == null) {
            return -1000010 - NULL;
        }
        if (from.bits != to.bits) {
            return -1000010 - STORE;
        }
        if (i < 0 || j < 0 || n < 0 || i + n > from.values.size() || j + n > to.values.size()) {
            return -1000010 - PLACE;
        }
        List<Integer> ahead = new ArrayList<>(from.values);
        for (int k = 0; k < n; k++) {
            to.values.set((int) j + k, ahead.get((int) i + k));
        }
        return n;
    }

    private long done(List<Integer> values, long i, int what) {
        if (i < 0 || i + 15 > values.size()) {
            return -1000010 - PLACE;
        }
        List<Integer> due = values.subList((int) i, (int) i + 15);
        List<Integer> sets = sets().filter(set -> made(told.board, chosen(set)).films().equals(due)).boxed()
            .collect(Collectors.toList());
        return what == 0 ? sets.size() : sets.isEmpty() ? NONE : sets.get(0);
    }

    // ---- calls that change what stands

    private long changed(String call, int... v) {
        switch (call) {
            case "feed":
                return tape.length() == 120 ? FULL : tape.append((char) v[0]).length();
            case "table":
                return read();
            case "fault":
                return fault;
            case "undo":
                if (acts.isEmpty()) {
                    return STATE;
                }
                told = told.with(acts.pop());
                return acts.size();
            case "charge":
                return act(charged(told.board, v[0], v[1])).wet;
            case "make":
                return act(made(told.board, List.of(v[0]))).wet;
            case "stand":
                return act(stoodStill(told.board, v[0])).film(v[0]);
            case "rest":
                return act(rested(told.board)).allFilm();
            case "image":
                if (told == null) {
                    return STATE;
                }
                images[v[0]] = told;
                return 1;
            default:
                if (images[v[0]] == null) {
                    return STATE;
                }
                told = images[v[0]];
                acts.clear();
                return 1;
        }
    }

    private Board act(Board then) {
        acts.push(told.board);
        if (acts.size() > 24) {
            acts.removeLast();
        }
        told = told.with(then);
        return then;
    }

    private long read() {
        String text = tape.toString();
        tape.setLength(0);
        int[] judged = TextModelTest.judge(text);
        if (judged[0] != 0) {
            fault = judged[0];
            return -1000100 - judged[1];
        }
        List<Cell> cells = new ArrayList<>(Collections.nCopies(15, new Cell(0, 0, 0)));
        Matcher cell = Pattern.compile("f(\\d+),(\\d+);").matcher(text);
        while (cell.find()) {
            cells.set(Integer.parseInt(cell.group(1)), new Cell(Integer.parseInt(cell.group(2)), 0, 0));
        }
        List<Way> ways = new ArrayList<>();
        Matcher pass = Pattern.compile("([gsdcr])(\\d+)([ewnb]*);").matcher(text);
        while (pass.find()) {
            ways.add(new Way(1 + "gsdcr".indexOf(pass.group(1)), path(Integer.parseInt(pass.group(2)), pass.group(3))));
        }
        Matcher law = Pattern.compile("t(\\d+),(\\d+);.*").matcher(text);
        if (!law.matches()) {
            throw new IllegalStateException(text);
        }
        Board board = new Board(cells, 0, Integer.parseInt(law.group(2)), 0);
        told = new Told(Integer.parseInt(law.group(1)), ways, board);
        acts.clear();
        return ways.size();
    }

    private static List<Integer> path(int first, String steps) {
        List<Integer> path = new ArrayList<>(List.of(first));
        for (char step : steps.toCharArray()) {
            int by = step == 'e' ? 1 : step == 'w' ? -1 : step == 'b' ? 5 : -5;
            path.add(path.get(path.size() - 1) + by);
        }
        return path;
    }

    // ---- what acts make of a board

    private static Board charged(Board board, int wet, int oil) {
        int then = Math.min(99, board.wet + wet);
        return new Board(board.cells, then, Math.min(99, board.oil + oil), board.spent + then - board.wet);
    }

    private static Board stoodStill(Board board, int at) {
        Cell cell = board.cells.get(at);
        return board.with(at, new Cell(Math.max(0, cell.film - 10), 0, cell.haze), board.wet);
    }

    private Board rested(Board board) {
        List<Cell> cells = board.cells.stream()
            .map(cell -> new Cell(Math.max(0, cell.film - told.sink), 0, Math.max(0, cell.haze - 1)))
            .collect(Collectors.toList());
        return new Board(cells, board.wet, board.oil, board.spent);
    }

    private Board made(Board board, List<Integer> passes) {
        Board then = board;
        for (int pass : passes) {
            Way way = told.ways.get(pass);
            for (int at : way.cells) {
                then = then.with(at, touched(then, then.cells.get(at), way.kind), Math.max(0, then.wet - 1));
            }
        }
        return then;
    }

    private static Cell touched(Board board, Cell cell, int kind) {
        int fourth = board.wet / 4;
        switch (kind) {
            case 1:
                return laidOn(cell, fourth, board.oil);
            case 2:
                int up = cell.soft / 2;
                return laidOn(new Cell(cell.film - up, cell.soft - up, cell.haze), 2 * fourth, board.oil);
            case 3:
                int left = board.wet == 0 ? Math.max(0, cell.film - 2) : cell.film;
                return laidOn(new Cell(left, Math.min(left, cell.soft), cell.haze), fourth / 2, board.oil);
            default:
                int off = cell.soft > 0 ? 1 : 0;
                return new Cell(cell.film - off, cell.soft - off, Math.max(0, cell.haze - (kind == 4 ? 4 : 8)));
        }
    }

    private static Cell laidOn(Cell cell, int laid, int oil) {
        int then = Math.min(999, cell.film + laid);
        return new Cell(then, cell.soft + then - cell.film, Math.min(99, cell.haze + oil / 4));
    }

    // ---- what is foretold

    private long foretold(String call, int... v) {
        switch (call) {
            case "ahead":
                Cell cell = rounds(v[0]).cells.get(v[1]);
                return v[2] == 0 ? cell.film : cell.haze;
            case "uneven":
                return rounds(v[0]).uneven();
            case "order":
                return order(v[0]);
            case "enough":
                Set<Integer> all = together(allPasses());
                return IntStream.rangeClosed(0, 40)
                    .filter(n -> all.stream().allMatch(at -> rounds(n).film(at) >= v[0])).findFirst().orElse(NONE);
            case "wetFor":
                return IntStream.rangeClosed(0, 99).filter(wet -> isEnough(v[0], wet, v[1])).findFirst().orElse(NONE);
            case "over":
                return over(v[0], v[1]);
            case "goOn":
                return made(told.board, allPasses()).allFilm() - made(rested(told.board), allPasses()).allFilm();
            case "cups":
                return bits(v[0]).map(at -> Math.max(0, v[1] - told.board.film(at))).sum();
            case "thin":
                int least = Collections.min(told.board.films());
                return IntStream.range(0, 15).filter(at -> told.board.film(at) == least).map(at -> 1 << at).sum();
            case "dust":
                return dust(v[0], v[1], v[2], v[3]);
            default:
                Board then = evenings(v[0], v[1]);
                return v[2] == 0 ? then.allFilm() : then.uneven();
        }
    }

    private List<Integer> allPasses() {
        return IntStream.range(0, told.ways.size()).boxed().collect(Collectors.toList());
    }

    private IntStream sets() {
        return IntStream.range(0, 1 << told.ways.size());
    }

    private static IntStream bits(int set) {
        return IntStream.range(0, 15).filter(bit -> (set & 1 << bit) != 0);
    }

    private static List<Integer> chosen(int set) {
        return bits(set).boxed().collect(Collectors.toList());
    }

    private Set<Integer> together(List<Integer> passes) {
        return passes.stream().flatMap(pass -> told.ways.get(pass).cells.stream()).collect(Collectors.toSet());
    }

    private Board rounds(int n) {
        Board then = told.board;
        for (int round = 0; round < n; round++) {
            then = made(then, allPasses());
        }
        return then;
    }

    private long order(int k) {
        List<List<Integer>> orders = new ArrayList<>();
        spell(new ArrayList<>(), orders);
        List<Integer> best = Collections.min(orders, Comparator.comparingInt(one -> made(told.board, one).uneven()));
        return k == -1 ? made(told.board, best).uneven() : k < best.size() ? best.get(k) : NONE;
    }

    private void spell(List<Integer> begun, List<List<Integer>> orders) {
        if (begun.size() == told.ways.size()) {
            orders.add(begun);
        }
        for (int pass : allPasses()) {
            if (!begun.contains(pass)) {
                List<Integer> longer = new ArrayList<>(begun);
                longer.add(pass);
                spell(longer, orders);
            }
        }
    }

    private boolean isEnough(int pass, int wet, int t) {
        Board now = told.board;
        Board then = made(new Board(now.cells, wet, now.oil, now.spent), List.of(pass));
        return told.ways.get(pass).cells.stream().allMatch(at -> then.film(at) - now.film(at) >= t);
    }

    private long over(int cells, int what) {
        Comparator<Integer> fewest = Comparator.comparingInt(Integer::bitCount);
        return sets().filter(set -> together(chosen(set)).containsAll(chosen(cells))).boxed()
            .min(fewest.thenComparing(Comparator.naturalOrder()))
            .map(set -> what == 0 ? Integer.bitCount(set) : set).orElse(NONE);
    }

    private static long dust(int p, int n, int k, int what) {
        BigInteger above = BigInteger.ZERO;
        for (int set = 0; set < 1 << n; set++) {
            int on = Integer.bitCount(set);
            if (on >= k) {
                above = above.add(BigInteger.valueOf(p).pow(on).multiply(BigInteger.valueOf(10 - p).pow(n - on)));
            }
        }
        BigInteger below = BigInteger.TEN.pow(n);
        BigInteger common = above.gcd(below);
        return (what == 0 ? above : below).divide(common).longValueExact();
    }

    private Board evenings(int n, int seed) {
        Board then = told.board;
        BigInteger x = BigInteger.valueOf(seed);
        for (int evening = 0; evening < n; evening++) {
            x = x.multiply(BigInteger.valueOf(16807)).mod(BigInteger.valueOf(2147483647));
            int drawn = x.intValueExact();
            if (!told.ways.isEmpty()) {
                then = made(then, List.of(drawn % told.ways.size()));
            }
            if (drawn % 7 == 0) {
                then = stoodStill(then, drawn % 15);
            }
        }
        return then;
    }

    // ---- what is asked

    private long asked(String call, int... v) {
        switch (call) {
            case "cell":
                Cell cell = told.board.cells.get(v[0]);
                int over = sets().filter(set -> Integer.bitCount(set) == 1 && together(chosen(set)).contains(v[0])).sum();
                return List.of(cell.film, cell.soft, cell.haze, over).get(v[1]);
            case "path":
                List<Integer> path = told.ways.get(v[0]).cells;
                return v[1] == -1 ? path.size() : v[1] < path.size() ? path.get(v[1]) : NONE;
            case "pad":
                return List.of(told.board.wet, told.board.oil, told.board.spent).get(v[0]);
            case "kind":
                return told.ways.get(v[0]).kind;
            case "ask":
                trace.clear();
                return bodyOf(v[0], v[1] == 0 ? SIZES : MARKS);
            case "trace":
                return v[0] >= 0 && v[0] < trace.size() ? trace.get(v[0]) : NONE;
            case "count":
                return count(v[0]);
            default:
                return status;
        }
    }

    private long count(int what) {
        List<Cell> cells = told == null ? List.of() : told.board.cells;
        switch (what) {
            case 0: return rows.size();
            case 1: return told == null ? 0 : told.ways.size();
            case 2: return told == null ? 0 : told.sink;
            case 3: return cells.stream().filter(cell -> cell.film > 0).count();
            case 4: return cells.stream().filter(cell -> cell.soft > 0).count();
            case 5: return acts.size();
            default: return tape.length();
        }
    }

    /** By KIND: what it is, too. */
    private static final int[] ABOVE = {-1, 0, 1, 1, 0, 4};
    /** By KIND: the BODY told for it, 0 if there is none. */
    private static final int[] SIZES = {10, 11, 12, 0, 13, 14};
    private static final int[] MARKS = {20, 21, 24, 22, 23, 0};

    private static boolean isOne(int kind, int asked) {
        return kind == asked || kind > 0 && isOne(ABOVE[kind], asked);
    }

    private int bodyOf(int pass, int[] bodies) {
        int kind = told.ways.get(pass).kind;
        while (bodies[kind] == 0) {
            kind = ABOVE[kind];
        }
        return body(bodies[kind], pass);
    }

    private int body(int number, int pass) {
        if (trace.size() < 16) {
            trace.add(number);
        }
        switch (number) {
            case 10: return told.ways.get(pass).cells.size();
            case 11: return body(10, pass) + bodyOf(pass, MARKS);
            case 12: return 0 - body(11, pass);
            case 13: return body(10, pass) - 100;
            case 14: return body(13, pass) * 2;
            case 20: return pass;
            case 21: return body(20, pass) + told.board.wet;
            case 22: return body(21, pass) - 1000;
            case 23: return body(20, pass) - bodyOf(pass, SIZES);
            default: return body(21, pass) * 2;
        }
    }
}
