import java.lang.reflect.Constructor;
import java.lang.reflect.Field;
import java.lang.reflect.Method;
import java.lang.reflect.Modifier;
import java.nio.file.Files;
import java.nio.file.Path;
import java.util.ArrayDeque;
import java.util.ArrayList;
import java.util.Arrays;
import java.util.Deque;
import java.util.HashSet;
import java.util.List;
import java.util.Map;
import java.util.Set;
import java.util.TreeMap;
import java.util.TreeSet;
import java.util.regex.Matcher;
import java.util.regex.Pattern;

/** The rules of LANGUAGE.md that can be read off the file, and the face of DOC.md. Takes the file's path. */
public final class LanguageTest {
    private static final String[] FACE = {
        "int fold(int,int) throws IllegalArgumentException",
        "boolean setStop(int,boolean) throws IllegalArgumentException",
        "int joinTo(int,int) throws IllegalArgumentException",
        "int draft(int,int) throws IndexOutOfBoundsException IllegalArgumentException IllegalStateException",
        "int add(int,int,int) throws IllegalArgumentException NoSuchElementException IllegalStateException",
        "int delete(int) throws NoSuchElementException",
        "int setPrice(int,int) throws NoSuchElementException IllegalArgumentException",
        "int refresh() throws",
        "int commit() throws",
        "int sync() throws",
        "int crash() throws",
        "int documents() throws",
        "int segments() throws",
        "int segmentAt(int,int) throws IndexOutOfBoundsException",
        "int open() throws IllegalStateException",
        "int close(int) throws IndexOutOfBoundsException",
        "int seen(int) throws IndexOutOfBoundsException",
        "int term(int,int) throws IndexOutOfBoundsException IllegalArgumentException IllegalStateException",
        "int phrase(int,int,int,int,int,boolean) throws IndexOutOfBoundsException IllegalArgumentException"
            + " IllegalStateException",
        "int priced(int,int) throws IllegalArgumentException IllegalStateException",
        "int coloured(int) throws IllegalArgumentException IllegalStateException",
        "int boosted(int,int) throws IndexOutOfBoundsException IllegalArgumentException"
            + " UnsupportedOperationException IllegalStateException",
        "int parents(int) throws IndexOutOfBoundsException UnsupportedOperationException IllegalStateException",
        "int clause(char,int) throws IllegalArgumentException IndexOutOfBoundsException IllegalStateException",
        "int set(int) throws IllegalArgumentException UnsupportedOperationException IllegalStateException",
        "int search(int,int,int,boolean) throws IndexOutOfBoundsException IllegalArgumentException",
        "int searchAnew(int,int,int,boolean) throws IndexOutOfBoundsException IllegalArgumentException",
        "int hits() throws",
        "int hitAt(int) throws IndexOutOfBoundsException",
        "int scoreAt(int) throws IndexOutOfBoundsException",
        "int score(int,int,int,boolean) throws IndexOutOfBoundsException NoSuchElementException",
        "int count(int,int,int,boolean) throws IndexOutOfBoundsException IllegalArgumentException",
        "int having(int,int) throws IndexOutOfBoundsException",
        "int keep(int) throws IndexOutOfBoundsException IllegalStateException",
        "int met(int,int) throws IllegalArgumentException",
        "long operations() throws",
        "float deletedShare() throws ArithmeticException",
        "double meanScore() throws ArithmeticException",
        "boolean isSound() throws",
    };
    private static final String[] FORBIDDEN = {
        "->", "::", "synchronized", "\\bassert\\b", "finally", "\\btry\\b", "\\bcatch\\b", "Exact\\(", "\\bvar\\b",
        "instanceof", "\\.equals\\(", "hashCode", "toString", "Random", "nanoTime", "currentTimeMillis",
        "System\\.(?!arraycopy)", "\\bNaN\\b", "import (?!java\\.util\\.NoSuchElementException;)",
        "throw (?!new (IllegalStateException|IllegalArgumentException|IndexOutOfBoundsException|ArithmeticException"
            + "|UnsupportedOperationException|NoSuchElementException|RuntimeException)\\((\"[^\"]*\")?\\);)",
        "\\bMath\\.(?!(max|min|abs|floorDiv|floorMod)\\()", "\\bInteger\\.(?!(bitCount|max|min|compare)\\()",
        "\\bLong\\.", "while", "\\bpublic static\\b", "\\bprotected\\b", "^package",
    };
    private static final int LONGEST_METHOD = 60;
    private static final int DEEPEST_CALL = 8;
    private static final Due due = new Due();

    private LanguageTest() {
    }

    public static void main(String[] args) throws Exception {
        String text = Files.readString(Path.of(args[0]));
        face();
        members();
        String bare = withoutComments(text);
        forbidden(text, bare);
        methods(bare);
        due.end();
    }

    private static void face() {
        Set<String> want = new TreeSet<>(Arrays.asList(FACE));
        Set<String> got = new TreeSet<>();
        for (Method method : HitHarbour.class.getDeclaredMethods()) {
            if (!Modifier.isPrivate(method.getModifiers())) {
                StringBuilder told = new StringBuilder(method.getReturnType().getName() + " " + method.getName() + "(");
                for (Class<?> type : method.getParameterTypes()) {
                    told.append(told.toString().endsWith("(") ? "" : ",").append(type.getName());
                }
                told.append(") throws");
                for (Class<?> type : method.getExceptionTypes()) {
                    told.append(' ').append(type.getSimpleName());
                }
                got.add(told.toString());
            }
        }
        due.same("rule 1: the face", got, want);
        Constructor<?>[] made = HitHarbour.class.getDeclaredConstructors();
        due.same("rule 1: one constructor", made.length, 1);
        due.same("rule 1: it is public", Modifier.isPublic(made[0].getModifiers()), true);
        int modifiers = HitHarbour.class.getModifiers();
        due.same("rule 1: public and final", Modifier.isPublic(modifiers) && Modifier.isFinal(modifiers), true);
    }

    private static void members() {
        Set<String> names = new HashSet<>();
        for (String line : FACE) {
            names.add(line.substring(line.indexOf(' ') + 1, line.indexOf('(')));
        }
        List<Class<?>> classes = new ArrayList<>(Arrays.asList(HitHarbour.class.getDeclaredClasses()));
        due.same("rule 11: at most twelve classes", classes.size() + 1 <= 12, true);
        for (Class<?> inside : classes) {
            int modifiers = inside.getModifiers();
            boolean isRight = Modifier.isStatic(modifiers) && Modifier.isPrivate(modifiers);
            due.same("rule 1: private and static " + inside.getSimpleName(), isRight, true);
        }
        classes.add(HitHarbour.class);
        for (Class<?> inside : classes) {
            int fields = 0;
            for (Field field : inside.getDeclaredFields()) {
                boolean isStatic = Modifier.isStatic(field.getModifiers());
                fields += isStatic ? 0 : 1;
                due.same("rule 5: final " + field, !isStatic || Modifier.isFinal(field.getModifiers()), true);
                boolean isFace = inside == HitHarbour.class;
                due.same("rule 1: private " + field, !isFace || Modifier.isPrivate(field.getModifiers()), true);
            }
            due.same("rule 11: fields of " + inside.getSimpleName(), fields <= 20, true);
            for (Method method : inside.getDeclaredMethods()) {
                due.same("rule 11: parameters of " + method, method.getParameterCount() <= 7, true);
                boolean isNamedAsFace = names.contains(method.getName());
                boolean isOfFace = Modifier.isPublic(method.getModifiers()) && inside == HitHarbour.class;
                due.same("rule 1: the name of " + method, isNamedAsFace == isOfFace, true);
            }
        }
    }

    private static String withoutComments(String text) {
        Matcher comment = Pattern.compile("/\\*.*?\\*/|//[^\n]*", Pattern.DOTALL).matcher(text);
        StringBuilder bare = new StringBuilder();
        while (comment.find()) {
            long lines = comment.group().chars().filter(sign -> sign == '\n').count();
            comment.appendReplacement(bare, "\n".repeat((int) lines));
        }
        return comment.appendTail(bare).toString();
    }

    private static void forbidden(String text, String bare) {
        due.same("rule 4: signs 1 to 127", text.chars().allMatch(sign -> sign > 0 && sign < 128), true);
        String quiet = bare;
        for (String pattern : FORBIDDEN) {
            Matcher found = Pattern.compile(pattern, Pattern.MULTILINE).matcher(quiet);
            due.same("a rule: no " + pattern, found.find() ? found.group() : "none", "none");
        }
        due.same("rule 10: texts are not joined by +", Pattern.compile("\"\\s*\\+|\\+\\s*\"").matcher(bare).find(), false);
    }

    /** How long methods are, and how deep calls go that are no recursion; same names count as one method. */
    private static void methods(String bare) {
        Pattern head = Pattern.compile("^( {4}| {8})(?:public |private |static |final )*[\\w\\[\\]]+ (\\w+)\\(.*");
        Map<String, Set<String>> calls = new TreeMap<>();
        String[] lines = bare.split("\n");
        Map<String, String> bodies = new TreeMap<>();
        for (int line = 0; line < lines.length; line++) {
            Matcher matcher = head.matcher(lines[line]);
            if (!matcher.matches() || lines[line].contains("new ") || lines[line].contains("return ")) {
                continue;
            }
            int end = line;
            while (!lines[end].equals(matcher.group(1) + "}")) {
                end++;
            }
            due.same("rule 11: the length of " + matcher.group(2), end - line + 1 <= LONGEST_METHOD, true);
            String body = String.join("\n", Arrays.copyOfRange(lines, line, end));
            bodies.merge(matcher.group(2), body.substring(body.indexOf('{')), (a, b) -> a + b);
        }
        for (Map.Entry<String, String> body : bodies.entrySet()) {
            Set<String> called = new TreeSet<>();
            Matcher matcher = Pattern.compile("(\\w+)\\(").matcher(body.getValue());
            while (matcher.find()) {
                if (bodies.containsKey(matcher.group(1))) {
                    called.add(matcher.group(1));
                }
            }
            calls.put(body.getKey(), called);
        }
        for (String line : FACE) {
            String name = line.substring(line.indexOf(' ') + 1, line.indexOf('('));
            Deque<String> path = new ArrayDeque<>();
            List<String> longest = new ArrayList<>();
            deepest(name, calls, path, longest);
            due.same("rule 11: calls at most eight deep: " + longest, longest.size() <= DEEPEST_CALL, true);
        }
    }

    private static void deepest(String name, Map<String, Set<String>> calls, Deque<String> path, List<String> longest) {
        // What is on the path already is recursion.
        if (path.contains(name)) {
            return;
        }
        path.addLast(name);
        if (path.size() > longest.size()) {
            longest.clear();
            longest.addAll(path);
        }
        for (String called : calls.get(name)) {
            deepest(called, calls, path, longest);
        }
        path.removeLast();
    }
}
