import java.lang.reflect.Constructor;
import java.lang.reflect.Member;
import java.lang.reflect.Method;
import java.lang.reflect.Modifier;
import java.nio.file.Files;
import java.nio.file.Path;
import java.util.Arrays;
import java.util.List;
import java.util.TreeSet;
import java.util.regex.Matcher;
import java.util.regex.Pattern;

/** The public face, and those rules of the language that a look at the class or its file can tell. */
public final class FaceTest {

    private static final List<String> FACE = List.of(
        "int type(char) IllegalArgumentException IllegalStateException",
        "int addLine() IllegalStateException",
        "int insertLine(int) IndexOutOfBoundsException IllegalStateException",
        "int setLine(int) IndexOutOfBoundsException",
        "int removeLine(int) IndexOutOfBoundsException",
        "int lines()",
        "int read()",
        "int readLast()",
        "int tops()",
        "int beginOf(int) IndexOutOfBoundsException",
        "char kindOf(int) IndexOutOfBoundsException",
        "int count(char) IllegalArgumentException",
        "int depth()",
        "int looseLists()",
        "int headings()",
        "int levelOf(int) IndexOutOfBoundsException",
        "int definitions()",
        "int notes()",
        "int usedNotes()",
        "int write()",
        "int writeTop(int) IndexOutOfBoundsException",
        "int writeAnew()",
        "char charAt(int) IndexOutOfBoundsException",
        "int links()",
        "float keptShare() ArithmeticException",
        "double meanLength() ArithmeticException",
        "boolean isSound()");

    private static final List<String> RULED_OUT = List.of(
        "->", "::", "\\bcatch\\b", "\\bfinally\\b", "\\bsynchronized\\b", "\\bassert\\b", "\\bequals\\(",
        "\\bhashCode\\b", "\\btoString\\b", "\\bstatic \\{", "\\bpackage ", "\\bMath\\.\\w+Exact\\b", "\\bSystem\\.(?!arraycopy)",
        "\\bthrow\\b(?! new (IllegalStateException|IllegalArgumentException|IndexOutOfBoundsException|ArithmeticException)\\(\")");

    private static final int MOST_CLASSES = 12;
    private static final int MOST_PARAMETERS = 7;
    private static final int MOST_METHOD_LINES = 60;

    private final Tally tally = new Tally();

    public static void main(String[] args) throws Exception {
        FaceTest test = new FaceTest();
        test.members();
        test.nested();
        test.source(Path.of(args.length > 0 ? args[0] : "src/main/java/WeaveMark.java"));
        test.tally.close("FaceTest");
    }

    private void members() {
        tally.same("the class", Modifier.toString(WeaveMark.class.getModifiers()), "public final");
        TreeSet<String> found = new TreeSet<>();
        for (Method method : WeaveMark.class.getDeclaredMethods()) {
            if (!Modifier.isPrivate(method.getModifiers())) {
                found.add((Modifier.isPublic(method.getModifiers()) ? "" : "not public ") + told(method));
            }
        }
        tally.same("the methods", found, new TreeSet<>(FACE));
        Constructor<?>[] constructors = WeaveMark.class.getDeclaredConstructors();
        tally.same("one constructor", constructors.length, 1);
        tally.same("public", Modifier.isPublic(constructors[0].getModifiers()), true);
        tally.same("without parameters", constructors[0].getParameterCount(), 0);
        for (Member field : WeaveMark.class.getDeclaredFields()) {
            tally.same("private " + field.getName(), Modifier.isPrivate(field.getModifiers()), true);
        }
    }

    private static String told(Method method) {
        StringBuilder out = new StringBuilder(method.getReturnType() + " " + method.getName() + "(");
        for (Class<?> each : method.getParameterTypes()) {
            out.append(each);
        }
        out.append(')');
        for (Class<?> each : method.getExceptionTypes()) {
            out.append(' ').append(each.getSimpleName());
        }
        return out.toString();
    }

    private void nested() {
        Class<?>[] classes = WeaveMark.class.getDeclaredClasses();
        tally.same("some twelve classes", classes.length + 1 <= MOST_CLASSES, true);
        TreeSet<String> names = new TreeSet<>();
        for (String line : FACE) {
            names.add(line.replaceFirst("\\(.*", "").replaceFirst(".* ", ""));
        }
        for (Class<?> each : classes) {
            tally.same("static " + each.getSimpleName(), Modifier.isStatic(each.getModifiers()), true);
            for (Method method : each.getDeclaredMethods()) {
                tally.same("no name of the face " + method, names.contains(method.getName()), false);
                tally.same("parameters of " + method, method.getParameterCount() <= MOST_PARAMETERS, true);
            }
            for (java.lang.reflect.Field field : each.getDeclaredFields()) {
                boolean isState = Modifier.isStatic(field.getModifiers()) && !Modifier.isFinal(field.getModifiers());
                tally.same("no static state " + field, isState, false);
            }
        }
    }

    private void source(Path file) throws java.io.IOException {
        String all = Files.readString(file);
        String code = all.replaceAll("(?s)/\\*.*?\\*/", "").replaceAll("(?m)//.*$", "");
        for (String ruled : RULED_OUT) {
            Matcher match = Pattern.compile(ruled).matcher(code);
            tally.same("ruled out: " + ruled, match.find(), false);
        }
        for (char sign : all.toCharArray()) {
            if (sign != '\n' && (sign < 32 || sign > 126)) {
                tally.same("a sign of the source", (int) sign, "from 32 to 126");
            }
        }
        tally.same("imports", Arrays.stream(code.split("\n")).filter(line -> line.startsWith("import")).toList(),
            List.of("import java.util.Arrays;"));
        methodLengths(all.split("\n"));
    }

    private void methodLengths(String[] lines) {
        Pattern head = Pattern.compile("( {4}| {8})[^\\s/*@}].*\\).*\\{");
        for (int line = 0; line < lines.length; line++) {
            Matcher match = head.matcher(lines[line]);
            if (!match.matches()) {
                continue;
            }
            int end = line;
            while (end < lines.length && !lines[end].equals(match.group(1) + "}")) {
                end++;
            }
            tally.same("short: " + lines[line].trim(), end - line < MOST_METHOD_LINES, true);
        }
    }
}
