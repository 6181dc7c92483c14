import java.io.IOException;
import java.lang.reflect.Constructor;
import java.lang.reflect.Field;
import java.lang.reflect.Method;
import java.lang.reflect.Modifier;
import java.nio.file.Files;
import java.nio.file.Path;
import java.util.ArrayList;
import java.util.List;
import java.util.Set;
import java.util.TreeSet;
import java.util.regex.Matcher;
import java.util.regex.Pattern;

/** The public face of the document, and the rules of LANGUAGE.md that can be seen from outside the code. */
public final class FaceTest {
    private static final Check CHECK = new Check();
    private static final Path SOURCE = Path.of("src/main/java/FootQuarrel.java");
    private static final Path DOCUMENT = Path.of("../shared/DOC.md");
    private static final int MOST_LINES = 60;
    private static final int MOST_CLASSES = 12;
    private static final int MOST_FIELDS = 20;
    private static final int MOST_PARAMETERS = 7;

    public static void main(String[] args) throws IOException {
        face();
        members();
        source();
        methodLengths();
        CHECK.finish();
    }

    private static void tell(String what) {
        CHECK.due(what, 1, 0);
    }

    /** The methods of the document's face, written as reflection writes them. */
    private static void face() throws IOException {
        String document = Files.readString(DOCUMENT);
        Matcher matcher = Pattern.compile("^ {4}public (int|long|boolean) (\\w+)\\((.*)\\);$", Pattern.MULTILINE).matcher(document);
        Set<String> want = new TreeSet<>();
        while (matcher.find()) {
            want.add(matcher.group(1) + " " + matcher.group(2) + "(" + matcher.group(3).replaceAll("(\\w+) \\w+", "$1") + ")");
        }
        CHECK.due("methods in the document", want.size(), 60);
        Set<String> got = new TreeSet<>();
        Set<String> names = new TreeSet<>();
        for (Method method : FootQuarrel.class.getDeclaredMethods()) {
            if (Modifier.isPublic(method.getModifiers())) {
                List<String> types = new ArrayList<>();
                for (Class<?> type : method.getParameterTypes()) {
                    types.add(type.getSimpleName());
                }
                got.add(method.getReturnType().getSimpleName() + " " + method.getName() + "(" + String.join(", ", types) + ")");
                names.add(method.getName());
            }
        }
        if (!want.equals(got)) {
            tell("the face is " + got + " and should be " + want);
        }
        for (Class<?> inside : classes()) {
            for (Method method : inside.getDeclaredMethods()) {
                if (!Modifier.isPublic(method.getModifiers()) && names.contains(method.getName())) {
                    tell(inside.getName() + "." + method.getName() + " bears the name of a public method");
                }
            }
        }
    }

    private static List<Class<?>> classes() {
        List<Class<?>> all = new ArrayList<>();
        all.add(FootQuarrel.class);
        all.addAll(List.of(FootQuarrel.class.getDeclaredClasses()));
        return all;
    }

    private static void members() {
        if (!Modifier.isFinal(FootQuarrel.class.getModifiers()) || !Modifier.isPublic(FootQuarrel.class.getModifiers())) {
            tell("the class is not public and final");
        }
        Constructor<?>[] constructors = FootQuarrel.class.getDeclaredConstructors();
        CHECK.due("constructors", constructors.length, 1);
        for (Field field : FootQuarrel.class.getDeclaredFields()) {
            boolean isNone = field.getName().equals("NONE");
            if (Modifier.isPublic(field.getModifiers()) != isNone || !isNone && !Modifier.isPrivate(field.getModifiers())) {
                tell("the field " + field.getName() + " can be seen");
            }
        }
        for (Method method : FootQuarrel.class.getDeclaredMethods()) {
            if (!Modifier.isPublic(method.getModifiers()) && !Modifier.isPrivate(method.getModifiers())) {
                tell("the method " + method.getName() + " can be seen");
            }
        }
        if (classes().size() > MOST_CLASSES) {
            tell("there are " + classes().size() + " classes");
        }
        for (Class<?> inside : classes()) {
            insideRules(inside);
        }
    }

    private static void insideRules(Class<?> inside) {
        if (inside != FootQuarrel.class && !Modifier.isStatic(inside.getModifiers())) {
            tell(inside.getName() + " is not static");
        }
        int fields = 0;
        for (Field field : inside.getDeclaredFields()) {
            if (!Modifier.isStatic(field.getModifiers())) {
                fields++;
            } else if (!Modifier.isFinal(field.getModifiers())) {
                tell(inside.getName() + "." + field.getName() + " is static state");
            }
        }
        if (fields > MOST_FIELDS) {
            tell(inside.getName() + " has " + fields + " fields");
        }
        for (Method method : inside.getDeclaredMethods()) {
            if (method.getParameterCount() > MOST_PARAMETERS) {
                tell(inside.getName() + "." + method.getName() + " has too many parameters");
            }
        }
    }

    private static void source() throws IOException {
        String code = Files.readString(SOURCE).replaceAll("(?s)/\\*.*?\\*/", "").replaceAll("//[^\n]*", "")
                .replaceAll("\"[^\"]*\"", "\"\"");
        String[] never = {"\\bthrow\\b", "\\btry\\b", "\\bcatch\\b", "\\bsynchronized\\b", "\\bassert\\b", "->", "::",
            "^import ", "^package ", "Exact\\b", "\\bthrows\\b", "System\\.(?!arraycopy)", "\\bRandom\\b", "\\bThread\\b",
            "\"\" *\\+", "\\+ *\"\"", "\\bdouble\\b", "\\bfloat\\b", "\\bwhile\\b"};
        for (String pattern : never) {
            Matcher matcher = Pattern.compile(pattern, Pattern.MULTILINE).matcher(code);
            if (matcher.find()) {
                tell("the code has " + matcher.group());
            }
        }
    }

    private static void methodLengths() throws IOException {
        List<String> lines = Files.readAllLines(SOURCE);
        int begin = -1;
        String indent = "";
        Pattern head = Pattern.compile("^( {4}| {8})[a-zA-Z].*\\) \\{$");
        for (int i = 0; i < lines.size(); i++) {
            Matcher matcher = head.matcher(lines.get(i));
            if (matcher.matches() && begin < 0) {
                begin = i;
                indent = matcher.group(1);
            } else if (begin >= 0 && lines.get(i).equals(indent + "}")) {
                if (i - begin + 1 > MOST_LINES) {
                    tell("the method in line " + (begin + 1) + " has " + (i - begin + 1) + " lines");
                }
                begin = -1;
            }
        }
    }
}
