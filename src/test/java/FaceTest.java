import java.io.IOException;
import java.lang.reflect.Constructor;
import java.lang.reflect.Field;
import java.lang.reflect.Method;
import java.lang.reflect.Modifier;
import java.nio.file.Files;
import java.nio.file.Path;
import java.util.ArrayDeque;
import java.util.ArrayList;
import java.util.Arrays;
import java.util.Collections;
import java.util.List;
import java.util.TreeSet;
import java.util.regex.Matcher;
import java.util.regex.Pattern;

/** The face that the document shows, and some of the words that LANGUAGE.md rules out. */
public final class FaceTest {
    private static final Path PROGRAM = Path.of("src", "main", "java", "Certhold.java");
    private static final Path DOCUMENT = Path.of("..", "shared", "DOC.md");

    // LANGUAGE.md leaves a few of these in narrow forms; the program does without them.
    private static final String[] RULED_OUT = {
        "->", "::", "\\bcatch\\b", "\\bfinally\\b", "\\btry\\b", "\\bsynchronized\\b",
        "\\bassert\\b", "Exact\\(", "\\bjava\\.(?!util\\.NoSuchElementException;)", "\\bSystem\\b",
        "\\bRandom\\b", "\\bThread\\b", "\\bObject\\b", "\\bClass\\b", "\"\\s*\\+", "\\+\\s*\"",
        "\\.getMessage", "hashCode", "\\bequals\\b", "toString", "\\bpackage\\b",
    };

    private static final int MOST_PARAMETERS = 7;
    private static final int MOST_FIELDS = 20;
    private static final int MOST_LINES = 60;

    public static void main(String[] arguments) throws IOException {
        face();
        nothingElse();
        sizes();
        methodLengths();
        words();
        Calls.end();
    }

    /** The lines of the document's face, without the names of the parameters, sorted. */
    private static void face() throws IOException {
        List<String> wants = new ArrayList<>();
        for (String line : Files.readAllLines(DOCUMENT)) {
            if (line.startsWith("    public ") && line.endsWith(";")) {
                String head = line.trim().replaceAll(";$", "");
                wants.add(head.replaceAll("(int|boolean) \\w+([,)])", "$1$2"));
            }
        }
        List<String> got = new ArrayList<>();
        for (Constructor<?> each : Certhold.class.getConstructors()) {
            got.add(Modifier.toString(each.getModifiers()) + " Certhold("
                    + names(each.getParameterTypes()) + ")" + thrown(each.getExceptionTypes()));
        }
        for (Method each : Certhold.class.getDeclaredMethods()) {
            if (!Modifier.isPrivate(each.getModifiers())) {
                got.add(Modifier.toString(each.getModifiers()) + " " + each.getReturnType() + " "
                        + each.getName() + "(" + names(each.getParameterTypes()) + ")"
                        + thrown(each.getExceptionTypes()));
            }
        }
        Collections.sort(wants);
        Collections.sort(got);
        Calls.same("number of public members", 40, wants.size());
        Calls.same("the face", String.join("\n", wants), String.join("\n", got));
    }

    private static String names(Class<?>[] types) {
        return String.join(", ", Arrays.stream(types).map(Class::getSimpleName).toList());
    }

    private static String thrown(Class<?>[] types) {
        return types.length == 0 ? "" : " throws " + names(types);
    }

    private static void nothingElse() {
        Calls.same("modifiers of the class", "public final",
                Modifier.toString(Certhold.class.getModifiers()));
        TreeSet<String> faceNames = new TreeSet<>();
        for (Method each : Certhold.class.getDeclaredMethods()) {
            if (Modifier.isPublic(each.getModifiers())) {
                faceNames.add(each.getName());
            }
        }
        for (Field each : Certhold.class.getDeclaredFields()) {
            Calls.same("field " + each.getName() + " is private", true,
                    Modifier.isPrivate(each.getModifiers()));
        }
        List<Class<?>> types = new ArrayList<>(List.of(Certhold.class.getDeclaredClasses()));
        types.add(Certhold.class);
        Calls.same("at most twelve classes", true, types.size() <= 12);
        for (Class<?> type : types) {
            for (Method each : type.getDeclaredMethods()) {
                boolean isOfFace = type == Certhold.class && Modifier.isPublic(each.getModifiers());
                Calls.same(type + "." + each.getName() + " bears no public name", true,
                        isOfFace || !faceNames.contains(each.getName()));
            }
            for (Field each : type.getDeclaredFields()) {
                Calls.same("field " + each.getName() + " is final if it is static", true,
                        !Modifier.isStatic(each.getModifiers())
                                || Modifier.isFinal(each.getModifiers()));
            }
        }
    }

    /** Rules 1, 2, 5 and 11: classes inside, their fields, and how many parameters there are. */
    private static void sizes() {
        List<Class<?>> types = new ArrayList<>(List.of(Certhold.class.getDeclaredClasses()));
        for (Class<?> type : types) {
            Calls.same(type + " is static, and neither public nor protected", true,
                    Modifier.isStatic(type.getModifiers())
                            && !Modifier.isPublic(type.getModifiers())
                            && !Modifier.isProtected(type.getModifiers()));
            Calls.same(type + " has no class inside", 0, type.getDeclaredClasses().length);
        }
        types.add(Certhold.class);
        for (Class<?> type : types) {
            long fields = Arrays.stream(type.getDeclaredFields())
                    .filter(each -> !Modifier.isStatic(each.getModifiers())).count();
            Calls.same(type + " has some twenty fields at most", true, fields <= MOST_FIELDS);
            for (Method each : type.getDeclaredMethods()) {
                Calls.same("parameters of " + type + "." + each.getName() + " are few", true,
                        each.getParameterCount() <= MOST_PARAMETERS);
            }
            for (Constructor<?> each : type.getDeclaredConstructors()) {
                Calls.same("parameters of " + each + " are few", true,
                        each.getParameterCount() <= MOST_PARAMETERS);
            }
            for (Field each : type.getDeclaredFields()) {
                boolean isConstant = each.getType().isPrimitive() || each.getType() == String.class;
                Calls.same("field " + each.getName() + " is a plain constant if it is static", true,
                        isConstant || !Modifier.isStatic(each.getModifiers()));
            }
        }
    }

    /** Rule 11: a method is a block that stands in a class, from its first brace to its last. */
    private static void methodLengths() throws IOException {
        ArrayDeque<Integer> begun = new ArrayDeque<>();
        ArrayDeque<Boolean> isClass = new ArrayDeque<>();
        int methods = 0;
        String[] lines = code().split("\n");
        for (int line = 0; line < lines.length; line++) {
            for (char sign : lines[line].toCharArray()) {
                if (sign == '{') {
                    begun.push(line);
                    isClass.push(lines[line].contains(" class "));
                } else if (sign == '}') {
                    int length = line - begun.pop() + 1;
                    if (!isClass.pop() && isClass.peek()) {
                        methods++;
                        Calls.same("lines to " + (line + 1) + " are few", true,
                                length <= MOST_LINES);
                    }
                }
            }
        }
        Calls.same("its methods are found", true, methods > 40);
    }

    /** The program without its comments, on the same lines. */
    private static String code() throws IOException {
        StringBuilder text = new StringBuilder();
        Matcher comment = Pattern.compile("(?s)/\\*.*?\\*/|//[^\n]*")
                .matcher(Files.readString(PROGRAM));
        while (comment.find()) {
            comment.appendReplacement(text, comment.group().replaceAll("[^\n]", ""));
        }
        comment.appendTail(text);
        return text.toString();
    }

    private static void words() throws IOException {
        String code = code();
        for (String each : RULED_OUT) {
            boolean isThere = Pattern.compile(each).matcher(code).find();
            Calls.same("the program has " + each, false, isThere);
        }
    }
}
