import java.util.ArrayList;
import java.util.List;
import java.util.Random;

/**
 * Promises 7 and 8 against a second reader, written another way: the whole text is cut into tokens first, and
 * each token is then judged by what may stand behind the ones before it.
 */
final class TextModelTest {
    /** kind is the letter or sign itself, '0' for a number, '?' for none, '.' for the end. */
    private record Token(char kind, int value, int place) {
    }

    private enum Stage { LAW, SINK, COMMA, OIL, LAW_END, CELLS, CELL, CELL_COMMA, FILM, CELL_END, PASS_CELL, STEPS, PASSES }

    // Texts that one object is told, which is promised 512 calls.
    private static final int TEXTS = 4;
    private static final String LETTERS = "tfgsdcrewnb0123456789,; AZz\377";

    private static Stage stage;
    private static int cells;
    private static int passes;
    private static int steps;
    private static int x;
    private static int y;
    private static boolean[] seen;

    public static void main(String[] args) {
        Random random = new Random(99);
        int[] numbers = new int[4];
        PadPolish polish = new PadPolish();
        int latest = 0;
        for (int i = 0; i < 60000; i++) {
            String text = ForetoldTest.randomText(random);
            for (int change = random.nextInt(3); change > 0; change--) {
                text = changed(text, random);
            }
            if (random.nextInt(4) == 0) {
                text = text + passesOf(ForetoldTest.randomText(random));
            }
            text = text.substring(0, Math.min(text.length(), 120));
            int[] due = judge(text);
            if (i % TEXTS == 0) {
                polish = new PadPolish();
                latest = 0;
            }
            latest = due[0] == 0 ? latest : due[0];
            int answer = Checks.tell(polish, text);
            Checks.due("fault() of " + text, polish.fault(), latest);
            Checks.due("table() of " + text, answer, due[0] == 0 ? due[1] : -1000100 - due[1]);
            numbers[due[0]]++;
        }
        System.out.println("texts without a fault, with 1, 2, 3: " + java.util.Arrays.toString(numbers));
        Checks.due("faults of each number", Math.min(numbers[0], Math.min(numbers[2], numbers[3])) > 20 ? 1 : 0, 1);
        Checks.end();
    }

    private static String passesOf(String text) {
        return text.replaceFirst("^[tf0-9,;]*", "");
    }

    private static String changed(String text, Random random) {
        if (text.isEmpty()) {
            return text;
        }
        int place = random.nextInt(text.length());
        char letter = LETTERS.charAt(random.nextInt(LETTERS.length()));
        switch (random.nextInt(4)) {
            case 0:
                return text.substring(0, place) + text.substring(place + 1);
            case 1:
                return text.substring(0, place) + letter + text.substring(place);
            case 2:
                return text.substring(0, place) + letter + text.substring(place + 1);
            default:
                return random.nextInt(4) == 0 ? text.substring(0, place) : text;
        }
    }

    private static List<Token> cut(String text) {
        List<Token> tokens = new ArrayList<>();
        int i = 0;
        while (i < text.length()) {
            char letter = text.charAt(i);
            int end = i + 1;
            if (letter >= '0' && letter <= '9') {
                while (end < text.length() && text.charAt(end) >= '0' && text.charAt(end) <= '9') {
                    end++;
                }
                boolean number = end - i <= 2;
                tokens.add(new Token(number ? '0' : '?', number ? Integer.parseInt(text.substring(i, end)) : 0, i));
            } else if (letter >= 'a' && letter <= 'z' || letter == ',' || letter == ';') {
                tokens.add(new Token(letter, 0, i));
            } else {
                tokens.add(new Token('?', 0, i));
            }
            i = end;
        }
        tokens.add(new Token('.', 0, text.length()));
        return tokens;
    }

    /** The number of the fault and its place, or 0 and how many passes there are. */
    static int[] judge(String text) {
        stage = Stage.LAW;
        cells = 0;
        passes = 0;
        seen = new boolean[15];
        for (Token token : cut(text)) {
            int fault = take(token);
            if (fault > 0) {
                return new int[] {fault, token.place};
            }
        }
        return new int[] {0, passes};
    }

    private static int sign(Token token, char due, Stage then) {
        stage = then;
        return token.kind == due ? 0 : 1;
    }

    private static int number(Token token, int most, Stage then) {
        stage = then;
        if (token.kind != '0') {
            return 1;
        }
        return token.value > most ? 2 : 0;
    }

    private static int take(Token token) {
        switch (stage) {
            case LAW: return sign(token, 't', Stage.SINK);
            case SINK: return number(token, 9, Stage.COMMA);
            case COMMA: return sign(token, ',', Stage.OIL);
            case OIL: return number(token, 9, Stage.LAW_END);
            case LAW_END: return sign(token, ';', Stage.CELLS);
            case CELLS: return token.kind == 'f' ? beginCell() : beginPass(token);
            case CELL: return cell(token);
            case CELL_COMMA: return sign(token, ',', Stage.FILM);
            case FILM: return number(token, 99, Stage.CELL_END);
            case CELL_END: return sign(token, ';', Stage.CELLS);
            case PASS_CELL: return passCell(token);
            case STEPS: return step(token);
            default: return beginPass(token);
        }
    }

    private static int beginCell() {
        stage = Stage.CELL;
        cells++;
        return cells > 15 ? 3 : 0;
    }

    private static int cell(Token token) {
        int fault = number(token, 14, Stage.CELL_COMMA);
        if (fault > 0) {
            return fault;
        }
        boolean like = seen[token.value];
        seen[token.value] = true;
        return like ? 2 : 0;
    }

    private static int beginPass(Token token) {
        if (token.kind == '.') {
            return 0;
        }
        if ("gsdcr".indexOf(token.kind) < 0) {
            return 1;
        }
        stage = Stage.PASS_CELL;
        passes++;
        return passes > 4 ? 3 : 0;
    }

    private static int passCell(Token token) {
        steps = 0;
        x = token.value % 5;
        y = token.value / 5;
        return number(token, 14, Stage.STEPS);
    }

    private static int step(Token token) {
        if (token.kind == ';') {
            stage = Stage.PASSES;
            return 0;
        }
        if ("ewnb".indexOf(token.kind) < 0) {
            return 1;
        }
        x += token.kind == 'e' ? 1 : token.kind == 'w' ? -1 : 0;
        y += token.kind == 'b' ? 1 : token.kind == 'n' ? -1 : 0;
        steps++;
        return steps > 8 || x < 0 || x > 4 || y < 0 || y > 2 ? 1 : 0;
    }
}
