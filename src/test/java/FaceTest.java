import java.io.IOException;
import java.lang.reflect.Constructor;
import java.lang.reflect.Field;
import java.lang.reflect.Method;
import java.lang.reflect.Modifier;
import java.nio.charset.StandardCharsets;
import java.nio.file.Files;
import java.nio.file.Path;
import java.util.ArrayList;
import java.util.Arrays;
import java.util.List;
import java.util.Set;
import java.util.TreeSet;
import java.util.regex.Matcher;
import java.util.regex.Pattern;

/** The face is the document's, and the source keeps to what can be seen of LANGUAGE.md from outside. */
public final class FaceTest {
    private static final String I = "IndexOutOfBoundsException";
    private static final String G = "IllegalArgumentException";
    private static final String S = "IllegalStateException";
    private static final String A = "ArithmeticException";
    private static final String[] FACE = {
        "int set(int,int,int)" + I + G, "long setFour(int,boolean,int,int,int,int)" + I + G, "int setOrder(int)" + G,
        "int load(int,int)" + I, "long add(int,int,int,boolean)" + I + A, "long multiply(int,int,int)" + I + A,
        "int conjugate(int)" + I, "long commutator(int,int,int)" + I + A, "long associator(int,int,int,int)" + I + A,
        "long divide(int,int,int,int)" + I + G + S + A, "int coordinate(int,int)" + I, "long norm(int)" + I,
        "long dot(int,int)" + I, "int ordersOf(int)" + I, "int left(int,int,int)" + I, "int unitOf(int)" + I,
        "int value(int)" + G, "int dimension(int)" + G, "boolean commute(int,int)" + I, "boolean associate(int,int,int)" + I,
        "long elements(int)" + G, "int steps(int,int)" + I + S, "long lastNorm(int,int)" + I + S, "int commuting(int)" + I,
        "int append(int)" + G + S, "int clearText()", "int carryOut()", "int undo()" + S, "long digest()"};

    private static int wrong = 0;

    /** The calls ahead of which the interface says a line, under that line. */
    private static final String[] PARTS = {"---- registers set setFour setOrder load add multiply conjugate commutator associator divide",
        "---- values coordinate norm dot ordersOf left unitOf value",
        "---- what if dimension commute associate elements steps lastNorm commuting",
        "---- text append clearText carryOut", "---- state undo digest"};

    public static void main(String[] args) throws IOException, NoSuchFieldException, IllegalAccessException {
        face();
        constant();
        classesInside();
        for (Class<?> c : classes()) {
            fields(c);
        }
        source();
        System.out.println(wrong == 0 ? "the face and the source are as told" : wrong + " faults");
        if (wrong != 0) {
            System.exit(1);
        }
    }

    private static void need(boolean holds, String what) {
        if (!holds) {
            wrong++;
            System.out.println(what);
        }
    }

    private static void face() {
        int modifiers = OctavianDesk.class.getModifiers();
        need(Modifier.isPublic(modifiers) && Modifier.isFinal(modifiers), "the class is public and final");
        Set<String> due = new TreeSet<>(Arrays.asList(FACE));
        Set<String> got = new TreeSet<>();
        for (Method m : OctavianDesk.class.getDeclaredMethods()) {
            if (Modifier.isPrivate(m.getModifiers())) {
                continue;
            }
            need(Modifier.isPublic(m.getModifiers()) && !Modifier.isStatic(m.getModifiers()), "public and no static: " + m);
            StringBuilder text = new StringBuilder(m.getReturnType() + " " + m.getName() + "(");
            for (Class<?> type : m.getParameterTypes()) {
                text.append(text.charAt(text.length() - 1) == '(' ? "" : ",").append(type);
            }
            text.append(")");
            for (Class<?> type : m.getExceptionTypes()) {
                text.append(type.getSimpleName());
            }
            got.add(text.toString());
        }
        need(due.equals(got), "the face is " + got);
        Constructor<?>[] constructors = OctavianDesk.class.getDeclaredConstructors();
        need(constructors.length == 1 && Modifier.isPublic(constructors[0].getModifiers())
            && constructors[0].getParameterCount() == 0, "one public constructor");
        need(constructors[0].getExceptionTypes().length == 0, "a constructor that throws nothing");
        need(OctavianDesk.class.getPackageName().isEmpty() && OctavianDesk.class.getSuperclass() == Object.class
            && OctavianDesk.class.getInterfaces().length == 0, "a class without a package, and of no other kind");
        for (Field f : OctavianDesk.class.getDeclaredFields()) {
            need(f.getName().equals("NONE") == Modifier.isPublic(f.getModifiers()), "public or private: " + f);
            need(Modifier.isPublic(f.getModifiers()) || Modifier.isPrivate(f.getModifiers()), "neither public nor private: " + f);
        }
    }

    private static void constant() throws NoSuchFieldException, IllegalAccessException {
        Field none = OctavianDesk.class.getField("NONE");
        need(none.getModifiers() == (Modifier.PUBLIC | Modifier.STATIC | Modifier.FINAL) && none.getType() == int.class
            && none.getInt(null) == -1, "public static final int NONE = -1");
    }

    private static List<Class<?>> classes() {
        List<Class<?>> all = new ArrayList<>(Arrays.asList(OctavianDesk.class.getDeclaredClasses()));
        all.add(OctavianDesk.class);
        return all;
    }

    /** Rules 3, 5 and 11: their types, that no static one changes, and how many there are. */
    private static void fields(Class<?> c) {
        int own = 0;
        for (Field f : c.getDeclaredFields()) {
            Class<?> type = f.getType();
            Class<?> part = type.isArray() ? type.getComponentType() : type;
            if (Modifier.isStatic(f.getModifiers())) {
                need(Modifier.isFinal(f.getModifiers()), "static and not final: " + f);
                need(part == int.class || part == long.class || part == boolean.class && !type.isArray() || part == String.class && !type.isArray()
                    || part == char.class || part == byte.class && type.isArray(), "no constant that may be static: " + f);
            } else {
                own++;
                boolean numbers = part.isPrimitive() || part.isArray() && part.getComponentType().isPrimitive();
                need(numbers || classes().contains(part) || part == String.class && !type.isArray(), "no type of the language: " + f);
            }
        }
        need(own <= 20, "more than twenty fields in " + c);
    }

    private static void classesInside() {
        Set<String> open = new TreeSet<>();
        for (String s : FACE) {
            open.add(s.substring(s.indexOf(' ') + 1, s.indexOf('(')));
        }
        Class<?>[] inside = OctavianDesk.class.getDeclaredClasses();
        need(inside.length <= 11, "at most twelve classes");
        for (Class<?> c : inside) {
            need(Modifier.isStatic(c.getModifiers()) && !Modifier.isPublic(c.getModifiers())
                && !Modifier.isProtected(c.getModifiers()), "static, and private or package-visible: " + c);
            need(c.getDeclaredClasses().length == 0, "a class inside a class inside: " + c);
            for (Method m : c.getDeclaredMethods()) {
                need(!open.contains(m.getName()), "bears the name of a public one: " + m);
                need(m.getParameterCount() <= 7, "more than seven parameters: " + m);
            }
        }
        for (Method m : OctavianDesk.class.getDeclaredMethods()) {
            need(Modifier.isPublic(m.getModifiers()) || !open.contains(m.getName()), "bears the name of a public one: " + m);
            need(m.getParameterCount() <= 7, "more than seven parameters: " + m);
        }
    }

    private static void source() throws IOException {
        String text = Files.readString(Path.of("src/main/java/OctavianDesk.java"), StandardCharsets.UTF_8);
        need(text.chars().allMatch(c -> c == '\n' || c >= 32 && c < 127), "the source has plain signs alone");
        String code = text.replaceAll("(?s)/\\*.*?\\*/", "").replaceAll("//[^\\n]*", "").replaceAll("\"[^\"\\n]*\"", "\"\"");
        String refused = "\\b(import|package|try|catch|finally|synchronized|assert|instanceof|native|volatile|transient|var|Object|Exact|"
            + "System|Thread|Random|equals|hashCode|toString|getMessage|protected)\\b|->|::|Exact\\(|@";
        Matcher found = Pattern.compile(refused).matcher(code);
        while (found.find()) {
            need(false, "not in the language: " + found.group());
        }
        Matcher thrown = Pattern.compile("throw (?!new (IllegalStateException|IllegalArgumentException|IndexOutOfBoundsException"
            + "|ArithmeticException)\\(\"\"\\);)[^;]*;").matcher(code);
        while (thrown.find()) {
            need(false, "thrown otherwise: " + thrown.group());
        }
        library(code);
        loops(code);
        constructors(code);
        parts(text);
        methodsAreShort(text.split("\n"));
    }

    /** Rule 4: what is called by the name of a class is the program's own, or one of these. */
    private static void library(String code) {
        Set<String> own = new TreeSet<>();
        for (Class<?> c : classes()) {
            own.add(c.getSimpleName());
        }
        Matcher called = Pattern.compile("\\b([A-Z]\\w*[a-z]\\w*)\\.(\\w+)").matcher(code);
        while (called.find()) {
            need(own.contains(called.group(1)) || Set.of("Math.floorDiv", "Integer.bitCount").contains(called.group()),
                "not in the library: " + called.group());
        }
        Matcher made = Pattern.compile("\\bnew (\\w+)").matcher(code);
        while (made.find()) {
            need(own.contains(made.group(1)) || made.group(1).matches("long|int|byte|\\w+Exception"), "not to be made: " + made.group());
        }
    }

    /** Rule 9: each loop is a for that counts, against a bound or down to 0. */
    private static void loops(String code) {
        need(!Pattern.compile("\\b(while|do)\\b").matcher(code).find(), "a loop that does not count");
        Matcher loop = Pattern.compile("\\bfor \\(([^;]*);([^;]*);([^;{]*)\\) \\{").matcher(code);
        int loops = 0;
        while (loop.find()) {
            loops++;
            need(loop.group(2).matches(".*\\w+( \\+ \\d)? (<|<=|>) \\w.*") && loop.group(3).strip().matches("\\w+(\\+\\+|--| \\+= \\d)"),
                "a loop without an end that is seen: " + loop.group());
        }
        need(loops == code.split("\\bfor\\b", -1).length - 1, "a loop of another form");
    }

    /** Rule 6: none throws; a constructor's lines end at the first brace that stands as its name does. */
    private static void constructors(String code) {
        int found = 0;
        for (Class<?> c : classes()) {
            Matcher m = Pattern.compile("(?s)\\n( +)(public )?" + c.getSimpleName() + "\\([^)]*\\) \\{(.*?)\\n\\1\\}").matcher(code);
            while (m.find()) {
                found++;
                need(!m.group(3).contains("throw"), "a constructor of " + c + " throws");
            }
        }
        need(found >= 4, "constructors were not found");
    }

    /** The document tells the line that stands ahead of each part of the face, and the calls in their order. */
    private static void parts(String text) {
        int at = 0;
        for (String part : PARTS) {
            String[] words = part.substring(5).replace("what if", "what_if").split(" ");
            String line = "    // ---- " + words[0].replace('_', ' ') + "\n\n    public ";
            int next = text.indexOf(line, at);
            need(next >= at, "no line ahead of its calls: " + part);
            at = next < at ? at : next;
            for (int i = 1; i < words.length; i++) {
                Matcher call = Pattern.compile("\n    public \\w+ (\\w+)\\(").matcher(text);
                boolean found = call.find(at + 1);
                need(found && call.group(1).equals(words[i]), "not in the document's order: " + words[i]);
                at = found ? call.start() + 1 : at;
            }
        }
        need(!Pattern.compile("\n    public ").matcher(text).find(at), "public behind the last call of the face");
    }

    private static void methodsAreShort(String[] lines) {
        int from = -1;
        String indent = "";
        for (int i = 0; i < lines.length; i++) {
            String line = lines[i];
            if (from < 0 && line.matches(" {4,8}(public|private|static|[a-zA-Z]+) ?.*\\) ?(throws .*)?\\{")) {
                from = i;
                indent = line.substring(0, line.length() - line.stripLeading().length());
            } else if (from >= 0 && line.equals(indent + "}")) {
                need(i - from < 60, "a long method ends in line " + (i + 1));
                from = -1;
            }
        }
    }
}
