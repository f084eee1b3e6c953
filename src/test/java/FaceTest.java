import java.io.IOException;
import java.lang.reflect.Constructor;
import java.lang.reflect.Field;
import java.lang.reflect.Method;
import java.lang.reflect.Modifier;
import java.nio.file.Files;
import java.nio.file.Path;
import java.util.Arrays;
import java.util.TreeMap;
import java.util.TreeSet;
import java.util.regex.Matcher;
import java.util.regex.Pattern;

/** The public face, its constants, and promise 1: a new object. */
final class FaceTest {
    private static final String[] FACE = {
        "int row(int,int,int)", "int set(int,int,int)", "int copy(int,int,int,int,int)", "int drop(int)",
        "int feed(int)", "int table()", "int fault()", "int undo()",
        "int charge(int,int)", "int make(int)", "int stand(int)", "int rest()", "int cell(int,int)",
        "int path(int,int)", "int pad(int)",
        "int ahead(int,int,int)", "int uneven(int)", "int order(int)", "int enough(int)", "int wetFor(int,int)",
        "int over(int,int)", "int goOn()", "int done(int,int,int)", "int cups(int,int)", "int thin()",
        "long dust(int,int,int,int)", "int evenings(int,int,int)", "int image(int)", "int restore(int)",
        "int kind(int)", "int as(int,int)", "int ask(int,int)", "int trace(int)", "int count(int)", "int status()",
    };

    public static void main(String[] args) throws IOException {
        theFace();
        theConstants();
        asTheDocumentHasIt();
        aNewObject();
        Checks.end();
    }

    private static void same(String what, Object got, Object want) {
        if (!got.equals(want)) {
            System.out.println(what + ": " + got + ", due is " + want);
            Checks.due(what, 0, 1);
        }
    }

    private static void theFace() {
        TreeSet<String> methods = new TreeSet<>();
        TreeSet<String> privates = new TreeSet<>();
        for (Method method : PadPolish.class.getDeclaredMethods()) {
            if (Modifier.isPrivate(method.getModifiers())) {
                privates.add(method.getName());
            } else {
                String whole = method.toString().replace("public ", "").replace("PadPolish.", "");
                methods.add(whole);
            }
        }
        same("the methods", methods, new TreeSet<>(Arrays.asList(FACE)));
        for (String whole : FACE) {
            String name = whole.substring(whole.indexOf(' ') + 1, whole.indexOf('('));
            Checks.due("private methods named " + name, privates.contains(name) ? 1 : 0, 0);
        }
        TreeSet<String> fields = new TreeSet<>();
        for (Field field : PadPolish.class.getDeclaredFields()) {
            if (!Modifier.isPrivate(field.getModifiers())) {
                fields.add(field.getName());
                same(field.getName(), Modifier.toString(field.getModifiers()) + " " + field.getType(),
                    "public static final int");
            }
        }
        same("the constants", fields, new TreeSet<>(Arrays.asList("NONE", "BAD", "STATE", "FULL")));
        Constructor<?>[] constructors = PadPolish.class.getDeclaredConstructors();
        Checks.due("constructors", constructors.length, 1);
        Checks.due("its parameters", constructors[0].getParameterCount(), 0);
        same("the constructor", constructors[0].toString(), "public PadPolish()");
        same("the class", Modifier.toString(PadPolish.class.getModifiers()), "public final");
        same("what it extends", PadPolish.class.getSuperclass(), Object.class);
        Checks.due("what it implements", PadPolish.class.getInterfaces().length, 0);
        for (Class<?> inside : PadPolish.class.getDeclaredClasses()) {
            int modifiers = inside.getModifiers();
            boolean hidden = Modifier.isStatic(modifiers) && !Modifier.isPublic(modifiers)
                && !Modifier.isProtected(modifiers);
            Checks.due(inside + " is static, and not seen from outside", hidden ? 1 : 0, 1);
        }
    }

    /** The face of this test, and the values of the constants, are those that stand in the document's own Java. */
    private static void asTheDocumentHasIt() throws IOException {
        String document = Files.readString(Path.of("../shared/DOC.md"));
        String face = document.substring(document.indexOf("public final class"), document.indexOf("## Terms"));
        TreeSet<String> methods = new TreeSet<>();
        Matcher method = Pattern.compile("public (int|long) (\\w+)\\(([^)]*)\\);").matcher(face);
        while (method.find()) {
            String types = method.group(3).replaceAll("(\\w+) \\w+", "$1").replace(" ", "");
            methods.add(method.group(1) + " " + method.group(2) + "(" + types + ")");
        }
        same("the methods of the document", methods, new TreeSet<>(Arrays.asList(FACE)));
        TreeMap<String, Integer> constants = new TreeMap<>();
        Matcher constant = Pattern.compile("([A-Z]+) = (-?\\d+)").matcher(face);
        while (constant.find()) {
            constants.put(constant.group(1), Integer.valueOf(constant.group(2)));
        }
        TreeMap<String, Integer> ours = new TreeMap<>();
        ours.put("NONE", PadPolish.NONE);
        ours.put("BAD", PadPolish.BAD);
        ours.put("STATE", PadPolish.STATE);
        ours.put("FULL", PadPolish.FULL);
        same("the constants of the document", constants, ours);
    }

    private static void theConstants() {
        Checks.due("NONE", PadPolish.NONE, -1000000);
        Checks.due("BAD", PadPolish.BAD, -1000001);
        Checks.due("STATE", PadPolish.STATE, -1000002);
        Checks.due("FULL", PadPolish.FULL, -1000003);
    }

    private static void aNewObject() {
        PadPolish x = new PadPolish();
        for (int what = 0; what <= 6; what++) {
            Checks.due("new: count(" + what + ")", x.count(what), 0);
        }
        Checks.due("new: fault()", x.fault(), 0);
        Checks.due("new: status()", x.status(), 0);
        Checks.due("new: undo()", x.undo(), PadPolish.STATE);
        Checks.due("new: trace(0)", x.trace(0), PadPolish.NONE);
        for (int row = 0; row < 8; row++) {
            Checks.due("new: drop(" + row + ")", x.drop(row), Checks.NULL);
        }
        noTable(x);
    }

    /** Without a table STATE comes ahead of BAD where the document says so, and behind it where not. */
    private static void noTable(PadPolish x) {
        int[] odd = {Integer.MIN_VALUE, -2, -1, 0, 1, 5, 100000, Integer.MAX_VALUE};
        for (int v : odd) {
            String at = " of " + v + " without a table";
            Checks.due("charge" + at, x.charge(v, v), PadPolish.STATE);
            Checks.due("make" + at, x.make(v), PadPolish.BAD);
            Checks.due("stand" + at, x.stand(v), PadPolish.STATE);
            Checks.due("rest" + at, x.rest(), PadPolish.STATE);
            Checks.due("cell" + at, x.cell(v, v), PadPolish.STATE);
            Checks.due("path" + at, x.path(v, v), PadPolish.BAD);
            Checks.due("pad" + at, x.pad(v), PadPolish.STATE);
            Checks.due("ahead" + at, x.ahead(v, v, v), PadPolish.STATE);
            Checks.due("uneven" + at, x.uneven(v), PadPolish.STATE);
            Checks.due("order" + at, x.order(v), PadPolish.STATE);
            Checks.due("enough" + at, x.enough(v), PadPolish.STATE);
            Checks.due("wetFor" + at, x.wetFor(v, v), PadPolish.BAD);
            Checks.due("over" + at, x.over(v, v), PadPolish.STATE);
            Checks.due("goOn" + at, x.goOn(), PadPolish.STATE);
            Checks.due("done" + at, x.done(v, v, v), PadPolish.STATE);
            Checks.due("cups" + at, x.cups(v, v), PadPolish.STATE);
            Checks.due("thin" + at, x.thin(), PadPolish.STATE);
            Checks.due("evenings" + at, x.evenings(v, v, v), PadPolish.STATE);
            boolean image = v == 0 || v == 1;
            Checks.due("image" + at, x.image(v), image ? PadPolish.STATE : PadPolish.BAD);
            Checks.due("restore" + at, x.restore(v), image ? PadPolish.STATE : PadPolish.BAD);
            Checks.due("kind" + at, x.kind(v), PadPolish.BAD);
            Checks.due("as" + at, x.as(v, v), PadPolish.BAD);
            Checks.due("ask" + at, x.ask(v, v), PadPolish.BAD);
            Checks.due("undo" + at, x.undo(), PadPolish.STATE);
        }
    }
}
