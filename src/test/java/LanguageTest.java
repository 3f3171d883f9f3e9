import java.io.IOException;
import java.lang.reflect.Constructor;
import java.lang.reflect.Field;
import java.lang.reflect.Method;
import java.lang.reflect.Modifier;
import java.nio.file.Files;
import java.nio.file.Path;
import java.util.ArrayDeque;
import java.util.ArrayList;
import java.util.Arrays;
import java.util.Deque;
import java.util.List;
import java.util.TreeSet;

/**
 * The face of the document, and those rules of ../shared/LANGUAGE.md that a look at the text and at
 * the class can find. It is run from the root of the project.
 */
public final class LanguageTest {
    private static final String[] FACE = {
        "int alike(int,int) IndexOutOfBoundsException",
        "int append(int) IllegalArgumentException IllegalStateException",
        "int bestFold()",
        "int cast(int,int,int) IndexOutOfBoundsException",
        "int clearBuffer()",
        "int count(int) IllegalArgumentException",
        "int dieOf(int,int,int,int) IndexOutOfBoundsException IllegalArgumentException",
        "int firstError()",
        "int foil(int,int,int,int,int) IndexOutOfBoundsException IllegalArgumentException",
        "int fold(int) IndexOutOfBoundsException",
        "int gentlest(int,int) IndexOutOfBoundsException IllegalArgumentException",
        "int goBack(int) IllegalArgumentException IllegalStateException",
        "int ifFolded(int) IndexOutOfBoundsException",
        "int ifPressed(int,int,int,int) IndexOutOfBoundsException IllegalArgumentException",
        "int keep(int) IllegalArgumentException",
        "int load(int) IndexOutOfBoundsException IllegalArgumentException",
        "int needed(int,int,int,int) IndexOutOfBoundsException IllegalArgumentException",
        "int pin()",
        "int place(int,int,int) IndexOutOfBoundsException IllegalArgumentException",
        "int point(int,int,int,int) IndexOutOfBoundsException IllegalArgumentException",
        "int press(int,int,int,int) IndexOutOfBoundsException IllegalArgumentException",
        "int set(int,int) IndexOutOfBoundsException IllegalArgumentException",
        "int setting(int) IndexOutOfBoundsException",
        "int sheet()",
        "int undo() IllegalStateException",
        "double wholeShare()",
        "long digest()",
    };
    private static final String[] FORBIDDEN = {
        "->", "::", "\\btry\\b", "\\bcatch\\b", "\\bfinally\\b", "\\bsynchronized\\b", "\\bassert\\b",
        "\\bpackage\\b", "\\bDouble\\.", "\\bFloat\\.", "\\bObject\\b", "Exact\\(", "System\\.(?!arraycopy\\()",
        "\\bArrays\\.(?!fill\\(|copyOf\\(|copyOfRange\\()", "\\bequals\\(", "\\bhashCode\\(", "\\btoString\\(",
        "\\bstatic\\s*\\{", "\\bvar\\b", "\\+ \"", "\" \\+", "[^\\x00-\\x7f]",
    };

    private static final List<String> STATIC_TYPES =
            List.of("int", "long", "boolean", "char", "String", "int[]", "long[]", "char[]", "byte[]");

    public static void main(String[] args) throws IOException {
        face();
        nothingElseIsVisible();
        sizes();
        text();
        lengthsAndObjects();
        Check.end();
    }

    private static void face() {
        TreeSet<String> got = new TreeSet<>();
        for (Method method : EmbossPress.class.getDeclaredMethods()) {
            if (Modifier.isPublic(method.getModifiers())) {
                got.add(faceOf(method));
            }
        }
        Check.dueOutcome("the face", got.toString(), new TreeSet<>(Arrays.asList(FACE)).toString());
        Constructor<?>[] constructors = EmbossPress.class.getDeclaredConstructors();
        Check.due("constructors", constructors.length, 1);
        Check.due("its arguments", constructors[0].getParameterCount(), 0);
        Check.due("it is public", constructors[0].getModifiers(), Modifier.PUBLIC);
        Check.due("the class", EmbossPress.class.getModifiers(), Modifier.PUBLIC | Modifier.FINAL);
    }

    private static String faceOf(Method method) {
        List<String> types = new ArrayList<>();
        for (Class<?> type : method.getParameterTypes()) {
            types.add(type.getSimpleName());
        }
        StringBuilder face = new StringBuilder();
        face.append(method.getReturnType()).append(' ').append(method.getName());
        face.append('(').append(String.join(",", types)).append(')');
        for (Class<?> thrown : method.getExceptionTypes()) {
            face.append(' ').append(thrown.getSimpleName());
        }
        return face.toString();
    }

    private static void nothingElseIsVisible() {
        TreeSet<String> names = new TreeSet<>();
        for (Method method : EmbossPress.class.getDeclaredMethods()) {
            boolean isPublic = Modifier.isPublic(method.getModifiers());
            Check.due(method + " is public or private",
                    isPublic || Modifier.isPrivate(method.getModifiers()) ? 1 : 0, 1);
            if (isPublic) {
                names.add(method.getName());
            }
        }
        for (Method method : EmbossPress.class.getDeclaredMethods()) {
            boolean hidden = !Modifier.isPublic(method.getModifiers());
            Check.due(method + " is private and has a name of the face",
                    hidden && names.contains(method.getName()) ? 1 : 0, 0);
        }
        for (Field field : EmbossPress.class.getDeclaredFields()) {
            boolean isNone = field.getName().equals("NONE") && Modifier.isPublic(field.getModifiers());
            Check.due(field + " is private", isNone || Modifier.isPrivate(field.getModifiers()) ? 1 : 0, 1);
            staticField(field);
        }
        for (Class<?> inside : EmbossPress.class.getDeclaredClasses()) {
            for (Field field : inside.getDeclaredFields()) {
                staticField(field);
            }
            Check.due(inside + " is static", Modifier.isStatic(inside.getModifiers()) ? 1 : 0, 1);
            Check.due(inside + " is not public", Modifier.isPublic(inside.getModifiers()) ? 1 : 0, 0);
            for (Method method : inside.getDeclaredMethods()) {
                Check.due(method + " has no name of the face", names.contains(method.getName()) ? 1 : 0, 0);
            }
        }
    }

    private static void staticField(Field field) {
        if (!Modifier.isStatic(field.getModifiers())) {
            return;
        }
        Check.due(field + " is final", Modifier.isFinal(field.getModifiers()) ? 1 : 0, 1);
        String type = field.getType().getSimpleName();
        Check.due(field + " is of a type that static fields may have", STATIC_TYPES.contains(type) ? 1 : 0, 1);
    }

    /** Rule 11: parameters, classes in the file, fields beside the constants. */
    private static void sizes() {
        List<Class<?>> classes = new ArrayList<>(List.of(EmbossPress.class.getDeclaredClasses()));
        classes.add(EmbossPress.class);
        Check.due(classes.size() + " classes are twelve at most", classes.size() <= 12 ? 1 : 0, 1);
        for (Class<?> one : classes) {
            int fields = 0;
            for (Field field : one.getDeclaredFields()) {
                fields += Modifier.isStatic(field.getModifiers()) ? 0 : 1;
            }
            Check.due(one + " has twenty fields at most", fields <= 20 ? 1 : 0, 1);
            for (Method method : one.getDeclaredMethods()) {
                Check.due(method + " takes seven parameters at most", method.getParameterCount() <= 7 ? 1 : 0, 1);
            }
        }
    }

    /** Rule 11: methods are short. Rule 12: no call makes an object, but for what it throws. */
    private static void lengthsAndObjects() throws IOException {
        String[] lines = lines();
        Deque<Integer> open = new ArrayDeque<>();
        int constructor = -1;
        for (int i = 0; i < lines.length; i++) {
            String line = lines[i].strip();
            constructor = line.equals("public EmbossPress() {") ? i : constructor;
            boolean field = line.matches("(private )?final .*");
            boolean makes = line.contains("new ") && !line.startsWith("throw new ");
            Check.due("line " + (i + 1) + " makes an object in a call",
                    makes && !field && !open.contains(constructor) ? 1 : 0, 0);
            if (line.startsWith("}") && !open.isEmpty()) {
                int start = open.pop();
                boolean isClass = lines[start].contains(" class ");
                Check.due("line " + (start + 1) + " begins a short method", isClass || i - start < 60 ? 1 : 0, 1);
            }
            if (line.endsWith("{")) {
                open.push(i);
            }
        }
        Check.due("the constructor was seen", constructor >= 0 && open.isEmpty() ? 1 : 0, 1);
    }

    private static String[] lines() throws IOException {
        return Files.readString(Path.of("src/main/java/EmbossPress.java")).split("\n");
    }

    private static void text() throws IOException {
        String[] lines = lines();
        boolean inComment = false;
        for (int i = 0; i < lines.length; i++) {
            String line = lines[i].strip();
            boolean comment = inComment || line.startsWith("//") || line.startsWith("/*");
            inComment = (inComment || line.startsWith("/*")) && !line.endsWith("*/");
            if (comment) {
                continue;
            }
            for (String pattern : FORBIDDEN) {
                boolean found = java.util.regex.Pattern.compile(pattern).matcher(line).find();
                Check.due("line " + (i + 1) + " has " + pattern, found ? 1 : 0, 0);
            }
            if (line.startsWith("import")) {
                Check.dueOutcome("import", line, "import java.util.Arrays;");
            }
        }
    }
}
