import java.io.IOException;
import java.lang.reflect.Constructor;
import java.lang.reflect.Field;
import java.lang.reflect.Method;
import java.lang.reflect.Modifier;
import java.nio.charset.StandardCharsets;
import java.nio.file.Files;
import java.nio.file.Path;
import java.util.Arrays;
import java.util.Set;
import java.util.TreeSet;
import java.util.regex.Matcher;
import java.util.regex.Pattern;

/** The face is the document's, and the source keeps to what can be seen of LANGUAGE.md from outside. */
public final class FaceTest {
    private static final String I = "IndexOutOfBoundsException";
    private static final String G = "IllegalArgumentException";
    private static final String S = "IllegalStateException";
    private static final String A = "ArithmeticException";
    private static final String[] FACE = {
        "int set(int,int,int)" + I + G, "long setFour(int,boolean,int,int,int,int)" + I + G, "int setOrder(int)" + G,
        "int load(int,int)" + I, "long add(int,int,int,boolean)" + I + A, "long multiply(int,int,int)" + I + A,
        "int conjugate(int)" + I, "long commutator(int,int,int)" + I + A, "long associator(int,int,int,int)" + I + A,
        "long divide(int,int,int,int)" + I + G + S + A, "int coordinate(int,int)" + I, "long norm(int)" + I,
        "long dot(int,int)" + I, "int ordersOf(int)" + I, "int left(int,int,int)" + I, "int unitOf(int)" + I,
        "int value(int)" + G, "int dimension(int)" + G, "boolean commute(int,int)" + I, "boolean associate(int,int,int)" + I,
        "long elements(int)" + G, "int steps(int,int)" + I + S, "long lastNorm(int,int)" + I + S, "int commuting(int)" + I,
        "int append(int)" + G + S, "int clearText()", "int carryOut()", "int undo()" + S, "long digest()"};

    private static int wrong = 0;

    public static void main(String[] args) throws IOException {
        face();
        classesInside();
        source();
        System.out.println(wrong == 0 ? "the face and the source are as told" : wrong + " faults");
        if (wrong != 0) {
            System.exit(1);
        }
    }

    private static void need(boolean holds, String what) {
        if (!holds) {
            wrong++;
            System.out.println(what);
        }
    }

    private static void face() {
        int modifiers = OctavianDesk.class.getModifiers();
        need(Modifier.isPublic(modifiers) && Modifier.isFinal(modifiers), "the class is public and final");
        Set<String> due = new TreeSet<>(Arrays.asList(FACE));
        Set<String> got = new TreeSet<>();
        for (Method m : OctavianDesk.class.getDeclaredMethods()) {
            if (Modifier.isPrivate(m.getModifiers())) {
                continue;
            }
            need(Modifier.isPublic(m.getModifiers()) && !Modifier.isStatic(m.getModifiers()), "public and no static: " + m);
            StringBuilder text = new StringBuilder(m.getReturnType() + " " + m.getName() + "(");
            for (Class<?> type : m.getParameterTypes()) {
                text.append(text.charAt(text.length() - 1) == '(' ? "" : ",").append(type);
            }
            text.append(")");
            for (Class<?> type : m.getExceptionTypes()) {
                text.append(type.getSimpleName());
            }
            got.add(text.toString());
        }
        need(due.equals(got), "the face is " + got);
        Constructor<?>[] constructors = OctavianDesk.class.getDeclaredConstructors();
        need(constructors.length == 1 && Modifier.isPublic(constructors[0].getModifiers())
            && constructors[0].getParameterCount() == 0, "one public constructor");
        for (Field f : OctavianDesk.class.getDeclaredFields()) {
            need(f.getName().equals("NONE") == Modifier.isPublic(f.getModifiers()), "public or private: " + f);
            need(Modifier.isPublic(f.getModifiers()) || Modifier.isPrivate(f.getModifiers()), "neither public nor private: " + f);
        }
    }

    private static void classesInside() {
        Set<String> open = new TreeSet<>();
        for (String s : FACE) {
            open.add(s.substring(s.indexOf(' ') + 1, s.indexOf('(')));
        }
        Class<?>[] inside = OctavianDesk.class.getDeclaredClasses();
        need(inside.length <= 11, "at most twelve classes");
        for (Class<?> c : inside) {
            need(Modifier.isStatic(c.getModifiers()) && !Modifier.isPublic(c.getModifiers())
                && !Modifier.isProtected(c.getModifiers()), "static, and private or package-visible: " + c);
            for (Method m : c.getDeclaredMethods()) {
                need(!open.contains(m.getName()), "bears the name of a public one: " + m);
            }
        }
        for (Method m : OctavianDesk.class.getDeclaredMethods()) {
            need(Modifier.isPublic(m.getModifiers()) || !open.contains(m.getName()), "bears the name of a public one: " + m);
            need(m.getParameterCount() <= 7, "more than seven parameters: " + m);
        }
    }

    private static void source() throws IOException {
        String text = Files.readString(Path.of("src/main/java/OctavianDesk.java"), StandardCharsets.UTF_8);
        need(text.chars().allMatch(c -> c == '\n' || c >= 32 && c < 127), "the source has plain signs alone");
        String code = text.replaceAll("(?s)/\\*.*?\\*/", "").replaceAll("//[^\\n]*", "").replaceAll("\"[^\"\\n]*\"", "\"\"");
        String refused = "\\b(import|package|try|catch|finally|synchronized|assert|instanceof|native|volatile|transient|var|Object|Exact|"
            + "System|Thread|Random|equals|hashCode|toString|getMessage|protected)\\b|->|::|Exact\\(|@";
        Matcher found = Pattern.compile(refused).matcher(code);
        while (found.find()) {
            need(false, "not in the language: " + found.group());
        }
        Matcher thrown = Pattern.compile("throw (?!new (IllegalStateException|IllegalArgumentException|IndexOutOfBoundsException"
            + "|ArithmeticException)\\(\"\"\\);)[^;]*;").matcher(code);
        while (thrown.find()) {
            need(false, "thrown otherwise: " + thrown.group());
        }
        methodsAreShort(text.split("\n"));
    }

    private static void methodsAreShort(String[] lines) {
        int from = -1;
        String indent = "";
        for (int i = 0; i < lines.length; i++) {
            String line = lines[i];
            if (from < 0 && line.matches(" {4,8}(public|private|static|[a-zA-Z]+) ?.*\\) ?(throws .*)?\\{")) {
                from = i;
                indent = line.substring(0, line.length() - line.stripLeading().length());
            } else if (from >= 0 && line.equals(indent + "}")) {
                need(i - from < 60, "a long method ends in line " + (i + 1));
                from = -1;
            }
        }
    }
}
