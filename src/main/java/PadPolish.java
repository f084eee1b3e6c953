import java.util.ArrayList;
import java.util.Arrays;

/** A polishing pad on a table of cells: what it lays, what it takes, and what can be foretold of it. */
public final class PadPolish {
    public static final int NONE = -1000000, BAD = -1000001, STATE = -1000002, FULL = -1000003;

    private static final int FINDINGS = -1000010, FAULTS = -1000100;
    private static final int NULL = 1, PLACE = 2, KIND = 3, SIZE = 4, STORE = 5;
    private static final int ROWS = 8, ROW_ITEMS = 40, LANES = 3, MISSING = -1;
    private static final int TAPE_BYTES = 120, BYTES = 256;
    private static final int CELLS = 15, WIDTH = 5, HEIGHT = 3, ALL_CELLS = 32767;
    private static final int PASSES = 4, STEPS = 8;
    private static final int MOST_FILM = 999, MOST_HAZE = 99, MOST_WET = 99, MOST_OIL = 99;
    private static final int ACTS = 24, IMAGES = 2, TRACED = 16;
    /** How many words of n letters out of n there are; the orders of n passes are among them. */
    private static final int[] WORDS = {1, 1, 4, 27, 256};

    private final Row[] rows = new Row[ROWS];
    private final Tape tape = new Tape();
    private final Table[] images = new Table[IMAGES];
    private final boolean[] imageKept = new boolean[IMAGES];
    private final Surface[] acts = new Surface[ACTS];
    private final Surface guess = new Surface();
    private final Trace left = new Trace();
    private final int[] triedOrder = new int[PASSES];
    private final int[] bestOrder = new int[PASSES];
    private Table current = new Table();
    private Table draft = new Table();
    private boolean told;
    private int latestFault;
    private int nextAct;
    private int actCount;
    private int latestFinding;

    public PadPolish() {
        for (int i = 0; i < ROWS; i++) {
            rows[i] = new Row();
        }
        for (int i = 0; i < IMAGES; i++) {
            images[i] = new Table();
        }
        for (int i = 0; i < ACTS; i++) {
            acts[i] = new Surface();
        }
    }

    // ---- rows

    public int row(int row, int lane, int n) {
        if (!isRow(row) || !isWithin(lane, 0, LANES - 1) || n > ROW_ITEMS) {
            return BAD;
        }
        if (n < 0) {
            return found(SIZE);
        }
        rows[row].begin(lane, n);
        return unfound(n);
    }

    public int set(int row, int i, int v) {
        if (!isRow(row)) {
            return BAD;
        }
        Row items = rows[row];
        if (items.isMissing()) {
            return found(NULL);
        }
        if (!items.reaches(i, 1)) {
            return found(PLACE);
        }
        return unfound(items.put(i, v));
    }

    public int copy(int a, int i, int b, int j, int n) {
        if (!isRow(a) || !isRow(b)) {
            return BAD;
        }
        Row from = rows[a];
        Row to = rows[b];
        if (from.isMissing() || to.isMissing()) {
            return found(NULL);
        }
        if (from.lane != to.lane) {
            return found(STORE);
        }
        if (!from.reaches(i, n) || !to.reaches(j, n)) {
            return found(PLACE);
        }
        System.arraycopy(from.items, i, to.items, j, n);
        return unfound(n);
    }

    public int drop(int row) {
        if (!isRow(row)) {
            return BAD;
        }
        Row items = rows[row];
        if (items.isMissing()) {
            return found(NULL);
        }
        int had = items.length;
        items.length = MISSING;
        return unfound(had);
    }

    // ---- what is told

    public int feed(int letter) {
        if (!isWithin(letter, 0, BYTES - 1)) {
            return BAD;
        }
        return tape.append(letter) ? tape.length : FULL;
    }

    public int table() {
        // A faulty text must leave the table as it is, so a second one is written first.
        boolean faultless = tape.readInto(draft);
        tape.length = 0;
        if (!faultless) {
            latestFault = tape.faultNumber;
            return FAULTS - tape.at;
        }
        Table old = current;
        current = draft;
        draft = old;
        told = true;
        forgetActs();
        return current.passes.size();
    }

    public int fault() {
        return latestFault;
    }

    public int undo() {
        if (actCount == 0) {
            return STATE;
        }
        nextAct = (nextAct + ACTS - 1) % ACTS;
        actCount--;
        current.surface.become(acts[nextAct]);
        return actCount;
    }

    // ---- what is done

    public int charge(int wet, int oil) {
        if (!told) {
            return STATE;
        }
        if (!isWithin(wet, 0, MOST_WET) || !isWithin(oil, 0, MOST_OIL)) {
            return BAD;
        }
        keepAct();
        current.surface.soakPad(wet, oil);
        return current.surface.wet;
    }

    public int make(int pass) {
        Pass one = passOf(pass);
        if (one == null) {
            return BAD;
        }
        keepAct();
        one.goAlong(current.surface);
        return current.surface.wet;
    }

    public int stand(int cell) {
        if (!told) {
            return STATE;
        }
        if (!isCell(cell)) {
            return BAD;
        }
        keepAct();
        current.surface.tearAt(cell);
        return current.surface.film[cell];
    }

    public int rest() {
        if (!told) {
            return STATE;
        }
        keepAct();
        current.surface.sinkBy(current.sink);
        return current.surface.allFilm();
    }

    public int cell(int cell, int what) {
        if (!told) {
            return STATE;
        }
        if (!isCell(cell)) {
            return BAD;
        }
        switch (what) {
            case 0:
                return current.surface.film[cell];
            case 1:
                return current.surface.soft[cell];
            case 2:
                return current.surface.haze[cell];
            case 3:
                return current.passesAcross(cell);
            default:
                return BAD;
        }
    }

    public int path(int pass, int k) {
        Pass one = passOf(pass);
        if (one == null || k < -1) {
            return BAD;
        }
        if (k == -1) {
            return one.way.length;
        }
        return k < one.way.length ? one.way[k] : NONE;
    }

    public int pad(int what) {
        if (!told) {
            return STATE;
        }
        switch (what) {
            case 0:
                return current.surface.wet;
            case 1:
                return current.surface.oil;
            case 2:
                return current.surface.spent;
            default:
                return BAD;
        }
    }

    // ---- foretold (CELLS told as bits: 0 to 32767)

    public int ahead(int n, int cell, int what) {
        if (!told) {
            return STATE;
        }
        if (!isWithin(n, 0, 20) || !isCell(cell) || !isWithin(what, 0, 1)) {
            return BAD;
        }
        guessRounds(n);
        return what == 0 ? guess.film[cell] : guess.haze[cell];
    }

    public int uneven(int n) {
        if (!told) {
            return STATE;
        }
        if (!isWithin(n, 0, 20)) {
            return BAD;
        }
        guessRounds(n);
        return guess.unevenness();
    }

    public int order(int k) {
        if (!told) {
            return STATE;
        }
        if (!isWithin(k, -1, PASSES - 1)) {
            return BAD;
        }
        int least = findBestOrder();
        if (k == -1) {
            return least;
        }
        return k < current.passes.size() ? bestOrder[k] : NONE;
    }

    public int enough(int t) {
        if (!told) {
            return STATE;
        }
        if (!isWithin(t, 1, MOST_FILM)) {
            return BAD;
        }
        int cells = current.cellsOf(allPasses());
        guess.become(current.surface);
        for (int rounds = 0; rounds <= 40; rounds++) {
            if (guess.lackTo(t, cells) == 0) {
                return rounds;
            }
            current.makeAll(guess);
        }
        return NONE;
    }

    public int wetFor(int pass, int t) {
        Pass one = passOf(pass);
        if (one == null || !isWithin(t, 0, 99)) {
            return BAD;
        }
        for (int wet = 0; wet <= MOST_WET; wet++) {
            guess.become(current.surface);
            guess.wet = wet;
            one.goAlong(guess);
            if (gainsAlong(one, t)) {
                return wet;
            }
        }
        return NONE;
    }

    public int over(int cells, int what) {
        if (!told) {
            return STATE;
        }
        if (!isWithin(cells, 0, ALL_CELLS) || !isWithin(what, 0, 1)) {
            return BAD;
        }
        int best = NONE;
        int fewest = PASSES + 1;
        for (int set = 0; set <= allPasses(); set++) {
            boolean reachesAll = (cells & ~current.cellsOf(set)) == 0;
            if (reachesAll && Integer.bitCount(set) < fewest) {
                best = set;
                fewest = Integer.bitCount(set);
            }
        }
        return best == NONE || what == 1 ? best : fewest;
    }

    public int goOn() {
        if (!told) {
            return STATE;
        }
        guessRounds(1);
        int goingOn = guess.allFilm();
        guess.become(current.surface);
        guess.sinkBy(current.sink);
        current.makeAll(guess);
        return goingOn - guess.allFilm();
    }

    public int done(int row, int i, int what) {
        if (!told) {
            return STATE;
        }
        if (!isRow(row) || !isWithin(what, 0, 1)) {
            return BAD;
        }
        Row items = rows[row];
        if (items.isMissing()) {
            return found(NULL);
        }
        if (!items.reaches(i, CELLS)) {
            return found(PLACE);
        }
        int sets = 0;
        int least = NONE;
        for (int set = allPasses(); set >= 0; set--) {
            guess.become(current.surface);
            current.makeSome(set, guess);
            if (items.tellsFilm(i, guess)) {
                sets++;
                least = set;
            }
        }
        return unfound(what == 0 ? sets : least);
    }

    public int cups(int cells, int t) {
        if (!told) {
            return STATE;
        }
        if (!isWithin(cells, 0, ALL_CELLS) || !isWithin(t, 1, MOST_FILM)) {
            return BAD;
        }
        return current.surface.lackTo(t, cells);
    }

    public int thin() {
        if (!told) {
            return STATE;
        }
        return current.surface.thinnestCells();
    }

    public long dust(int p, int n, int k, int what) {
        if (!isWithin(p, 0, 10) || !isWithin(n, 0, 10) || !isWithin(k, 0, n) || !isWithin(what, 0, 1)) {
            return BAD;
        }
        long ways = 1;
        long above = 0;
        for (int j = 0; j <= n; j++) {
            if (j >= k) {
                above += ways * power(p, j) * power(10 - p, n - j);
            }
            ways = ways * (n - j) / (j + 1);
        }
        long below = power(10, n);
        long common = commonDivisor(above, below);
        return (what == 0 ? above : below) / common;
    }

    public int evenings(int n, int seed, int what) {
        if (!told) {
            return STATE;
        }
        if (!isWithin(n, 0, 30) || !isWithin(seed, 1, 999999) || !isWithin(what, 0, 1)) {
            return BAD;
        }
        guess.become(current.surface);
        int count = current.passes.size();
        long x = seed;
        for (int evening = 0; evening < n; evening++) {
            x = x * 16807 % 2147483647;
            if (count > 0) {
                current.passes.get((int) (x % count)).goAlong(guess);
            }
            if (x % 7 == 0) {
                guess.tearAt((int) (x % CELLS));
            }
        }
        return what == 0 ? guess.allFilm() : guess.unevenness();
    }

    public int image(int k) {
        if (!isWithin(k, 0, IMAGES - 1)) {
            return BAD;
        }
        if (!told) {
            return STATE;
        }
        images[k].become(current);
        imageKept[k] = true;
        return 1;
    }

    public int restore(int k) {
        if (!isWithin(k, 0, IMAGES - 1)) {
            return BAD;
        }
        if (!imageKept[k]) {
            return STATE;
        }
        current.become(images[k]);
        forgetActs();
        return 1;
    }

    // ---- asked

    public int kind(int one) {
        Pass pass = passOf(one);
        return pass == null ? BAD : pass.kindNumber();
    }

    public int as(int one, int kind) {
        Pass pass = passOf(one);
        if (pass == null || !isWithin(kind, 0, 5)) {
            return BAD;
        }
        return isOfKind(pass, kind) ? unfound(one) : found(KIND);
    }

    public int ask(int one, int what) {
        Pass pass = passOf(one);
        if (pass == null || !isWithin(what, 0, 1)) {
            return BAD;
        }
        left.length = 0;
        int wet = current.surface.wet;
        return what == 0 ? pass.size(wet, left) : pass.mark(wet, left);
    }

    public int trace(int i) {
        return isWithin(i, 0, left.length - 1) ? left.numbers[i] : NONE;
    }

    public int count(int what) {
        switch (what) {
            case 0:
                return rowsThere();
            case 1:
                return current.passes.size();
            case 2:
                return current.sink;
            case 3:
                return cellsAboveNone(current.surface.film);
            case 4:
                return cellsAboveNone(current.surface.soft);
            case 5:
                return actCount;
            case 6:
                return tape.length;
            default:
                return BAD;
        }
    }

    public int status() {
        return latestFinding;
    }

    // ---- within

    private static boolean isWithin(int v, int least, int most) {
        return v >= least && v <= most;
    }

    private static boolean isRow(int row) {
        return isWithin(row, 0, ROWS - 1);
    }

    private static boolean isCell(int cell) {
        return isWithin(cell, 0, CELLS - 1);
    }

    private int found(int finding) {
        latestFinding = finding;
        return FINDINGS - finding;
    }

    private int unfound(int answer) {
        latestFinding = 0;
        return answer;
    }

    private Pass passOf(int number) {
        return isWithin(number, 0, current.passes.size() - 1) ? current.passes.get(number) : null;
    }

    private int allPasses() {
        return (1 << current.passes.size()) - 1;
    }

    private void keepAct() {
        acts[nextAct].become(current.surface);
        nextAct = (nextAct + 1) % ACTS;
        actCount = Math.min(actCount + 1, ACTS);
    }

    private void forgetActs() {
        actCount = 0;
    }

    private void guessRounds(int n) {
        guess.become(current.surface);
        for (int round = 0; round < n; round++) {
            current.makeAll(guess);
        }
    }

    private boolean gainsAlong(Pass pass, int t) {
        for (int cell : pass.way) {
            if (guess.film[cell] < current.surface.film[cell] + t) {
                return false;
            }
        }
        return true;
    }

    private int findBestOrder() {
        int count = current.passes.size();
        int least = MOST_FILM + 1;
        for (int word = 0; word < WORDS[count]; word++) {
            if (!spellOrder(word, count)) {
                continue;
            }
            guess.become(current.surface);
            for (int k = 0; k < count; k++) {
                current.passes.get(triedOrder[k]).goAlong(guess);
            }
            int uneven = guess.unevenness();
            if (uneven < least) {
                least = uneven;
                System.arraycopy(triedOrder, 0, bestOrder, 0, count);
            }
        }
        return least;
    }

    /** Words rise as their orders do, the first pass weighing most; a word with a pass twice is no order. */
    private boolean spellOrder(int word, int count) {
        int rest = word;
        int seen = 0;
        for (int k = count - 1; k >= 0; k--) {
            triedOrder[k] = rest % count;
            rest /= count;
            seen |= 1 << triedOrder[k];
        }
        return seen == allPasses();
    }

    private static long power(long base, int exponent) {
        long product = 1;
        for (int i = 0; i < exponent; i++) {
            product *= base;
        }
        return product;
    }

    /** Of a number from 0 on and one above 0; some fifty steps are the most that ten figures need. */
    private static long commonDivisor(long a, long b) {
        long rest = a;
        long divisor = b;
        for (int step = 0; step < 100 && rest != 0; step++) {
            long next = divisor % rest;
            divisor = rest;
            rest = next;
        }
        return divisor;
    }

    private static boolean isOfKind(Pass pass, int kind) {
        switch (kind) {
            case 0:
                return true;
            case 1:
                return pass instanceof Sliding;
            case 2:
                return pass instanceof Soaked;
            case 3:
                return pass instanceof Dry;
            case 4:
                return pass instanceof Clearing;
            case 5:
                return pass instanceof Straight;
            default:
                return false;
        }
    }

    private int rowsThere() {
        int there = 0;
        for (Row row : rows) {
            if (!row.isMissing()) {
                there++;
            }
        }
        return there;
    }

    private static int cellsAboveNone(int[] values) {
        int cells = 0;
        for (int value : values) {
            if (value > 0) {
                cells++;
            }
        }
        return cells;
    }

    /** Items of a lane; one that is missing keeps its array for the next. */
    private static final class Row {
        private final int[] items = new int[ROW_ITEMS];
        private int lane;
        private int length = MISSING;

        boolean isMissing() {
            return length == MISSING;
        }

        void begin(int newLane, int n) {
            lane = newLane;
            length = n;
            Arrays.fill(items, 0);
        }

        /** Written without a sum, which could wrap around. */
        boolean reaches(int from, int n) {
            return from >= 0 && n >= 0 && n <= length - from;
        }

        int put(int i, int v) {
            if (lane == 0) {
                items[i] = (byte) v;
            } else if (lane == 1) {
                items[i] = (short) v;
            } else {
                items[i] = v;
            }
            return items[i];
        }

        boolean tellsFilm(int from, Surface surface) {
            for (int cell = 0; cell < CELLS; cell++) {
                if (items[from + cell] != surface.film[cell]) {
                    return false;
                }
            }
            return true;
        }
    }

    /** All that passes and rests change: the cells, and the pad. */
    private static final class Surface {
        private final int[] film = new int[CELLS];
        private final int[] soft = new int[CELLS];
        private final int[] haze = new int[CELLS];
        private int wet;
        private int oil;
        private int spent;

        void become(Surface other) {
            System.arraycopy(other.film, 0, film, 0, CELLS);
            System.arraycopy(other.soft, 0, soft, 0, CELLS);
            System.arraycopy(other.haze, 0, haze, 0, CELLS);
            wet = other.wet;
            oil = other.oil;
            spent = other.spent;
        }

        void wipe() {
            Arrays.fill(film, 0);
            Arrays.fill(soft, 0);
            Arrays.fill(haze, 0);
            wet = 0;
            oil = 0;
            spent = 0;
        }

        void soakPad(int moreWet, int moreOil) {
            int came = Math.min(moreWet, MOST_WET - wet);
            wet += came;
            spent += came;
            oil = Math.min(oil + moreOil, MOST_OIL);
        }

        void dryPad() {
            wet = Math.max(wet - 1, 0);
        }

        void layFilm(int cell, int amount) {
            int more = Math.min(amount, MOST_FILM - film[cell]);
            film[cell] += more;
            soft[cell] += more;
        }

        void layHaze(int cell) {
            haze[cell] = Math.min(haze[cell] + oil / 4, MOST_HAZE);
        }

        void takeHaze(int cell, int amount) {
            haze[cell] = Math.max(haze[cell] - amount, 0);
        }

        void takeSoft(int cell, int amount) {
            film[cell] -= amount;
            soft[cell] -= amount;
        }

        void scratch(int cell) {
            film[cell] = Math.max(film[cell] - 2, 0);
            soft[cell] = Math.min(soft[cell], film[cell]);
        }

        void tearAt(int cell) {
            film[cell] = Math.max(film[cell] - 10, 0);
            soft[cell] = 0;
        }

        void sinkBy(int sink) {
            for (int cell = 0; cell < CELLS; cell++) {
                film[cell] = Math.max(film[cell] - sink, 0);
                soft[cell] = 0;
                takeHaze(cell, 1);
            }
        }

        int allFilm() {
            int all = 0;
            for (int one : film) {
                all += one;
            }
            return all;
        }

        int thinnest() {
            int least = MOST_FILM;
            for (int one : film) {
                least = Math.min(least, one);
            }
            return least;
        }

        int unevenness() {
            int most = 0;
            for (int one : film) {
                most = Math.max(most, one);
            }
            return most - thinnest();
        }

        int thinnestCells() {
            int least = thinnest();
            int cells = 0;
            for (int cell = 0; cell < CELLS; cell++) {
                if (film[cell] == least) {
                    cells |= 1 << cell;
                }
            }
            return cells;
        }

        int lackTo(int t, int cells) {
            int lack = 0;
            for (int cell = 0; cell < CELLS; cell++) {
                if ((cells >> cell & 1) == 1) {
                    lack += Math.max(t - film[cell], 0);
                }
            }
            return lack;
        }
    }

    /** What a text tells, and what has become of it. Its passes never change, so images share them. */
    private static final class Table {
        private final Surface surface = new Surface();
        private ArrayList<Pass> passes = new ArrayList<>();
        private int sink;

        void begin() {
            surface.wipe();
            passes = new ArrayList<>();
            sink = 0;
        }

        void become(Table other) {
            surface.become(other.surface);
            passes = other.passes;
            sink = other.sink;
        }

        void makeAll(Surface onto) {
            for (int p = 0; p < passes.size(); p++) {
                passes.get(p).goAlong(onto);
            }
        }

        void makeSome(int set, Surface onto) {
            for (int p = 0; p < passes.size(); p++) {
                if ((set >> p & 1) == 1) {
                    passes.get(p).goAlong(onto);
                }
            }
        }

        int cellsOf(int set) {
            int cells = 0;
            for (int p = 0; p < passes.size(); p++) {
                if ((set >> p & 1) == 1) {
                    cells |= passes.get(p).cells();
                }
            }
            return cells;
        }

        int passesAcross(int cell) {
            int set = 0;
            for (int p = 0; p < passes.size(); p++) {
                set |= (passes.get(p).cells() >> cell & 1) << p;
            }
            return set;
        }
    }

    /** The numbers of the bodies that began, for the latest ask. */
    private static final class Trace {
        private final int[] numbers = new int[TRACED];
        private int length;

        void leave(int number) {
            if (length < TRACED) {
                numbers[length] = number;
                length++;
            }
        }
    }

    /** The kinds of passes are classes, so that an ask finds its body as a call does. */
    private abstract static class Pass {
        private final int number;
        private final int[] way;

        Pass(int number, int[] way) {
            this.number = number;
            this.way = way;
        }

        abstract int kindNumber();

        abstract void touch(Surface surface, int cell);

        final void goAlong(Surface surface) {
            for (int cell : way) {
                touch(surface, cell);
            }
        }

        final int cells() {
            int cells = 0;
            for (int cell : way) {
                cells |= 1 << cell;
            }
            return cells;
        }

        int size(int wet, Trace trace) {
            trace.leave(10);
            return way.length;
        }

        int mark(int wet, Trace trace) {
            trace.leave(20);
            return number;
        }
    }

    private static class Sliding extends Pass {
        Sliding(int number, int[] way) {
            super(number, way);
        }

        @Override
        int kindNumber() {
            return 1;
        }

        int laid(int fourth) {
            return fourth;
        }

        /** What it does there ahead of laying: nothing, but for the kinds that take something first. */
        void takeFirst(Surface surface, int cell) {
        }

        @Override
        final void touch(Surface surface, int cell) {
            takeFirst(surface, cell);
            surface.layFilm(cell, laid(surface.wet / 4));
            surface.layHaze(cell);
            surface.dryPad();
        }

        @Override
        int size(int wet, Trace trace) {
            trace.leave(11);
            int cells = super.size(wet, trace);
            return cells + mark(wet, trace);
        }

        @Override
        int mark(int wet, Trace trace) {
            trace.leave(21);
            return super.mark(wet, trace) + wet;
        }
    }

    private static final class Soaked extends Sliding {
        Soaked(int number, int[] way) {
            super(number, way);
        }

        @Override
        int kindNumber() {
            return 2;
        }

        @Override
        int laid(int fourth) {
            return fourth * 2;
        }

        @Override
        void takeFirst(Surface surface, int cell) {
            surface.takeSoft(cell, surface.soft[cell] / 2);
        }

        @Override
        int size(int wet, Trace trace) {
            trace.leave(12);
            return -super.size(wet, trace);
        }

        @Override
        int mark(int wet, Trace trace) {
            trace.leave(24);
            return super.mark(wet, trace) * 2;
        }
    }

    private static final class Dry extends Sliding {
        Dry(int number, int[] way) {
            super(number, way);
        }

        @Override
        int kindNumber() {
            return 3;
        }

        @Override
        int laid(int fourth) {
            return fourth / 2;
        }

        @Override
        void takeFirst(Surface surface, int cell) {
            if (surface.wet == 0) {
                surface.scratch(cell);
            }
        }

        @Override
        int mark(int wet, Trace trace) {
            trace.leave(22);
            return super.mark(wet, trace) - 1000;
        }
    }

    private static class Clearing extends Pass {
        Clearing(int number, int[] way) {
            super(number, way);
        }

        @Override
        int kindNumber() {
            return 4;
        }

        int clearedHaze() {
            return 4;
        }

        @Override
        final void touch(Surface surface, int cell) {
            surface.takeHaze(cell, clearedHaze());
            surface.takeSoft(cell, Math.min(surface.soft[cell], 1));
            surface.dryPad();
        }

        @Override
        int size(int wet, Trace trace) {
            trace.leave(13);
            return super.size(wet, trace) - 100;
        }

        @Override
        int mark(int wet, Trace trace) {
            trace.leave(23);
            int marked = super.mark(wet, trace);
            return marked - size(wet, trace);
        }
    }

    private static final class Straight extends Clearing {
        Straight(int number, int[] way) {
            super(number, way);
        }

        @Override
        int kindNumber() {
            return 5;
        }

        @Override
        int clearedHaze() {
            return 8;
        }

        @Override
        int size(int wet, Trace trace) {
            trace.leave(14);
            return super.size(wet, trace) * 2;
        }
    }

    /** The bytes that came. They are read up to the first fault; "at" is its place then. */
    private static final class Tape {
        private static final int END = -1;

        private final int[] bytes = new int[TAPE_BYTES];
        private final int[] way = new int[STEPS + 1];
        private int length;
        private int at;
        private int faultNumber;

        boolean append(int letter) {
            if (length >= TAPE_BYTES) {
                return false;
            }
            bytes[length] = letter;
            length++;
            return true;
        }

        boolean readInto(Table table) {
            at = 0;
            table.begin();
            return readLaw(table) && readCells(table) && readPasses(table);
        }

        private boolean readLaw(Table table) {
            if (!readSign('t')) {
                return false;
            }
            table.sink = readNumber(9);
            if (table.sink < 0 || !readSign(',')) {
                return false;
            }
            table.surface.oil = readNumber(9);
            return table.surface.oil >= 0 && readSign(';');
        }

        private boolean readCells(Table table) {
            int seen = 0;
            for (int cells = 0; cells <= CELLS && next() == 'f'; cells++) {
                if (cells == CELLS) {
                    return refuse(3);
                }
                at++;
                int place = at;
                int cell = readNumber(CELLS - 1);
                if (cell < 0) {
                    return false;
                }
                if ((seen >> cell & 1) == 1) {
                    at = place;
                    return refuse(2);
                }
                seen |= 1 << cell;
                if (!readSign(',')) {
                    return false;
                }
                int film = readNumber(99);
                if (film < 0 || !readSign(';')) {
                    return false;
                }
                table.surface.film[cell] = film;
            }
            return true;
        }

        private boolean readPasses(Table table) {
            for (int passes = 0; passes <= PASSES && next() != END; passes++) {
                int sort = next();
                if (!isSort(sort)) {
                    return refuse(1);
                }
                if (passes == PASSES) {
                    return refuse(3);
                }
                at++;
                int cells = readWay();
                if (cells < 0 || !readSign(';')) {
                    return false;
                }
                table.passes.add(newPass(sort, passes, Arrays.copyOf(way, cells)));
            }
            return true;
        }

        /** How many cells the way has, or less than none if there is a fault. */
        private int readWay() {
            int cell = readNumber(CELLS - 1);
            if (cell < 0) {
                return -1;
            }
            way[0] = cell;
            int cells = 1;
            while (cells <= STEPS) {
                cell = beside(cell, next());
                if (cell < 0) {
                    // No step: unless it is the sign that ends a pass, readSign finds the fault.
                    return cells;
                }
                way[cells] = cell;
                cells++;
                at++;
            }
            return cells;
        }

        private static int beside(int cell, int step) {
            int x = cell % WIDTH;
            int y = cell / WIDTH;
            switch (step) {
                case 'e':
                    return x < WIDTH - 1 ? cell + 1 : -1;
                case 'w':
                    return x > 0 ? cell - 1 : -1;
                case 'n':
                    return y > 0 ? cell - WIDTH : -1;
                case 'b':
                    return y < HEIGHT - 1 ? cell + WIDTH : -1;
                default:
                    return -1;
            }
        }

        private static boolean isSort(int letter) {
            return letter == 'g' || letter == 's' || letter == 'd' || letter == 'c' || letter == 'r';
        }

        private static Pass newPass(int sort, int number, int[] way) {
            switch (sort) {
                case 's':
                    return new Soaked(number, way);
                case 'd':
                    return new Dry(number, way);
                case 'c':
                    return new Clearing(number, way);
                case 'r':
                    return new Straight(number, way);
                default:
                    return new Sliding(number, way);
            }
        }

        private int next() {
            return at < length ? bytes[at] : END;
        }

        private boolean readSign(char sign) {
            if (next() != sign) {
                return refuse(1);
            }
            at++;
            return true;
        }

        /** A number from 0 to most, or less than none if there is a fault; "at" stays at that. */
        private int readNumber(int most) {
            int figures = 0;
            int value = 0;
            while (figures < 3 && isFigure(at + figures)) {
                value = value * 10 + bytes[at + figures] - '0';
                figures++;
            }
            if (figures == 0 || figures > 2) {
                refuse(1);
                return -1;
            }
            if (value > most) {
                refuse(2);
                return -1;
            }
            at += figures;
            return value;
        }

        private boolean isFigure(int place) {
            return place < length && bytes[place] >= '0' && bytes[place] <= '9';
        }

        private boolean refuse(int number) {
            faultNumber = number;
            return false;
        }
    }
}
