import java.lang.reflect.Field;
import java.lang.reflect.Method;
import java.lang.reflect.Modifier;
import java.nio.file.Files;
import java.nio.file.Path;
import java.util.List;
import java.util.Set;
import java.util.TreeSet;
import java.util.regex.Matcher;
import java.util.regex.Pattern;

/** The face of the class, and the rules of LANGUAGE.md that can be seen from the outside or from the lines. */
public final class RulesTest {
    private static final Path SOURCE = Path.of("src/main/java/ProofSheets.java");
    private static final Set<String> FACE = new TreeSet<>(List.of("put(int)", "begin()", "send(int)", "bring(int)",
            "lose(int)", "find(int)", "merge(int)", "sheet(int,int)", "written(int,int,int)", "undo()", "count(int)",
            "at(int)", "mark(int,int)", "answer(int,int)", "against(int,int)", "next()", "finish()", "would(int)",
            "again(int)", "reader(int,int)", "type(int)", "clearText()", "fault(int,int)", "write(int)"));
    private static final Set<String> CONSTANTS =
            Set.of("INVALID_ARGUMENT", "NOT_POSSIBLE", "LIMIT_REACHED", "NOT_FOUND");

    public static void main(String[] args) throws Exception {
        face();
        namesOfTheFaceStandAlone(ProofSheets.class);
        members(ProofSheets.class);
        String source = Files.readString(SOURCE);
        words(source);
        objectsAreMadeInConstructors(source);
        lengthsOfMethods(source);
        Checks.end("RulesTest");
    }

    private static String signature(Method method) {
        StringBuilder parameters = new StringBuilder();
        for (Class<?> one : method.getParameterTypes()) {
            parameters.append(parameters.length() == 0 ? "" : ",").append(one.getName());
        }
        return method.getName() + "(" + parameters + ")";
    }

    private static void face() {
        Checks.holds("public and final", Modifier.isPublic(ProofSheets.class.getModifiers())
                && Modifier.isFinal(ProofSheets.class.getModifiers()));
        Checks.due("constructors", ProofSheets.class.getDeclaredConstructors().length, 1);
        Set<String> found = new TreeSet<>();
        for (Method method : ProofSheets.class.getDeclaredMethods()) {
            if (!Modifier.isPrivate(method.getModifiers())) {
                found.add(signature(method));
                Checks.holds(method.getName() + " is public and returns an int",
                        Modifier.isPublic(method.getModifiers()) && method.getReturnType() == int.class);
            }
        }
        Checks.holds("the methods " + found, found.equals(FACE));
        for (Field field : ProofSheets.class.getDeclaredFields()) {
            Checks.holds("the field " + field.getName(), Modifier.isPublic(field.getModifiers())
                    ? CONSTANTS.contains(field.getName()) : Modifier.isPrivate(field.getModifiers()));
        }
    }

    private static void namesOfTheFaceStandAlone(Class<?> type) {
        for (Method method : type.getDeclaredMethods()) {
            boolean isOfTheFace = type == ProofSheets.class && Modifier.isPublic(method.getModifiers());
            boolean bearsAName = FACE.stream().anyMatch(one -> one.startsWith(method.getName() + "("));
            Checks.holds(type.getSimpleName() + "." + method.getName(), isOfTheFace || !bearsAName);
            Checks.holds(method.getName() + ": parameters", method.getParameterCount() <= 7);
        }
        for (Class<?> inner : type.getDeclaredClasses()) {
            namesOfTheFaceStandAlone(inner);
        }
    }

    private static void members(Class<?> type) {
        int fields = 0;
        for (Field field : type.getDeclaredFields()) {
            boolean isStatic = Modifier.isStatic(field.getModifiers());
            fields += isStatic ? 0 : 1;
            Checks.holds("static and not final: " + field, !isStatic || Modifier.isFinal(field.getModifiers()));
        }
        Checks.holds("fields of " + type.getSimpleName(), fields <= 20);
        Checks.holds("classes inside", type.getDeclaredClasses().length <= 11);
        for (Class<?> inner : type.getDeclaredClasses()) {
            Checks.holds(inner + " is static", Modifier.isStatic(inner.getModifiers()) || inner.isInterface());
            members(inner);
        }
    }

    private static String withoutComments(String source) {
        return source.replaceAll("(?s)/\\*.*?\\*/", "").replaceAll("//[^\n]*", "");
    }

    private static void words(String source) {
        String[] ruledOut = {"package", "import", "throw", "throws", "try", "catch", "finally", "synchronized", "assert",
            "System", "Object", "equals", "hashCode", "toString", "Random", "Thread", "lambda", "yield", "volatile",
            "native", "char", "long", "double", "float"};
        String code = withoutComments(source);
        for (String word : ruledOut) {
            Checks.holds("the word " + word, !Pattern.compile("\\b" + word + "\\b").matcher(code).find());
        }
        for (String sign : new String[] {"->", "::", "@"}) {
            Checks.holds("the sign " + sign, !code.contains(sign));
        }
    }

    /** The room for objects is small: no call makes one. */
    private static void objectsAreMadeInConstructors(String source) {
        Pattern allowed = Pattern.compile("\\s+private final \\S+ \\w+ = new .*"
                + "|\\s+cells = new int\\[.*|\\s+(sheets|states)\\[i\\] = new \\w+\\(\\);");
        for (String line : withoutComments(source).split("\n")) {
            Checks.holds("made by a call: " + line, !line.contains("new ") || allowed.matcher(line).matches());
        }
    }

    private static void lengthsOfMethods(String source) {
        Pattern head = Pattern.compile("^( {4}| {8})\\S.*\\) \\{$");
        String[] lines = source.split("\n");
        for (int i = 0; i < lines.length; i++) {
            Matcher matcher = head.matcher(lines[i]);
            if (matcher.matches()) {
                int end = i;
                while (end < lines.length && !lines[end].equals(matcher.group(1) + "}")) {
                    end++;
                }
                Checks.holds("sixty lines from line " + (i + 1), end - i < 60);
            }
        }
    }
}
