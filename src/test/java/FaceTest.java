import java.io.IOException;
import java.lang.reflect.Constructor;
import java.lang.reflect.Field;
import java.lang.reflect.Method;
import java.lang.reflect.Modifier;
import java.nio.file.Files;
import java.nio.file.Path;
import java.util.Set;
import java.util.TreeSet;
import java.util.regex.Matcher;
import java.util.regex.Pattern;

/** The face is that of the document and nothing else, and the source keeps to what LANGUAGE.md lets be seen in it. */
public final class FaceTest {
    private static final Check CHECK = new Check();

    public static void main(String[] args) throws IOException {
        Path project = Path.of(System.getProperty("project", "."));
        Path shared = Path.of(System.getProperty("shared", "../shared"));
        methods(Files.readString(shared.resolve("DOC.md")));
        members();
        classesInside();
        source(Files.readString(project.resolve("src/main/java/AnnuityHouse.java")));
        CHECK.end();
    }

    private static void methods(String document) {
        Set<String> due = new TreeSet<>();
        Matcher matcher = Pattern.compile("    public (\\w+) (\\w+)\\((.*?)\\)(?: throws ([\\w, ]+))?;").matcher(document);
        while (matcher.find()) {
            String types = matcher.group(3).replaceAll(" \\w+(,|$)", "$1").replace(" ", "");
            String thrown = matcher.group(4) == null ? "" : matcher.group(4).replace(" ", "");
            due.add(matcher.group(1) + " " + matcher.group(2) + "(" + types + ") " + thrown);
        }
        Set<String> found = new TreeSet<>();
        Set<String> hidden = new TreeSet<>();
        for (Method method : AnnuityHouse.class.getDeclaredMethods()) {
            if (Modifier.isPublic(method.getModifiers())) {
                found.add(method.getReturnType() + " " + method.getName() + "(" + names(method.getParameterTypes()) + ") "
                        + names(method.getExceptionTypes()));
            } else {
                hidden.add(method.getName());
            }
        }
        CHECK.due(37, "the methods of the document", () -> due.size());
        CHECK.due(due.toString(), "the public methods", () -> found.toString());
        for (Method method : AnnuityHouse.class.getDeclaredMethods()) {
            CHECK.due(false, "private name " + method.getName(),
                    () -> Modifier.isPublic(method.getModifiers()) && hidden.contains(method.getName()));
        }
    }

    private static String names(Class<?>[] types) {
        StringBuilder text = new StringBuilder();
        for (Class<?> type : types) {
            text.append(text.length() == 0 ? "" : ",").append(type.getSimpleName());
        }
        return text.toString();
    }

    private static void members() {
        CHECK.due(true, "the class is public and final",
                () -> Modifier.isPublic(AnnuityHouse.class.getModifiers()) && Modifier.isFinal(AnnuityHouse.class.getModifiers()));
        Set<String> constants = new TreeSet<>();
        for (Field field : AnnuityHouse.class.getDeclaredFields()) {
            int how = field.getModifiers();
            CHECK.due(true, field.getName() + " is public or private", () -> Modifier.isPublic(how) || Modifier.isPrivate(how));
            CHECK.due(true, field.getName() + " is final or the object's own", () -> Modifier.isFinal(how) || !Modifier.isStatic(how));
            if (Modifier.isPublic(how)) {
                constants.add(field.getType() + " " + field.getName());
                CHECK.due(true, field.getName() + " is a constant", () -> Modifier.isStatic(how) && Modifier.isFinal(how));
            }
        }
        CHECK.due("[int CEILING, int DOWN, int EXACT, int FLOOR, int HALF_DOWN, int HALF_EVEN, int HALF_UP, int NONE, int UP]",
                "the public fields", () -> constants.toString());
        for (Method method : AnnuityHouse.class.getDeclaredMethods()) {
            CHECK.due(true, method.getName() + " is public or private",
                    () -> Modifier.isPublic(method.getModifiers()) || Modifier.isPrivate(method.getModifiers()));
        }
        Constructor<?>[] constructors = AnnuityHouse.class.getDeclaredConstructors();
        CHECK.due(1, "constructors", () -> constructors.length);
        CHECK.due(true, "the constructor is public and takes nothing",
                () -> Modifier.isPublic(constructors[0].getModifiers()) && constructors[0].getParameterCount() == 0);
    }

    private static void classesInside() {
        Class<?>[] inside = AnnuityHouse.class.getDeclaredClasses();
        CHECK.due(true, "some twelve classes", () -> inside.length < 12);
        for (Class<?> one : inside) {
            int how = one.getModifiers();
            CHECK.due(true, one + " is static and not public",
                    () -> Modifier.isStatic(how) && !Modifier.isPublic(how) && !Modifier.isProtected(how));
            CHECK.due(true, one + " has at most twenty fields", () -> ownFields(one) <= 20);
        }
        CHECK.due(true, "the house has at most twenty fields", () -> ownFields(AnnuityHouse.class) <= 20);
    }

    private static int ownFields(Class<?> one) {
        int count = 0;
        for (Field field : one.getDeclaredFields()) {
            count += Modifier.isStatic(field.getModifiers()) ? 0 : 1;
        }
        return count;
    }

    private static void source(String source) {
        String code = source.replaceAll("(?s)/\\*.*?\\*/", "").replaceAll("//.*", "").replaceAll("\"[^\"]*\"", "\"\"");
        CHECK.due("[]", "other imports", () -> all(code, "import (?!java\\.util\\.(?:Arrays|ArrayList|List|Iterator|NoSuchElementException);)([\\w.* ]+);"));
        for (String no : new String[] {"->", "::", "\\bfinally\\b", "\\bsynchronized\\b", "\\bassert\\b",
            "\\w+Exact\\(", "\\bpackage\\b", "\\bSystem\\b(?!\\.arraycopy)", "\\bRandom\\b", "\\bThread\\b", "BigInteger", "BigDecimal", "\\bvar\\b",
            "java\\.(?!util\\.(Arrays|ArrayList|List|Iterator|NoSuchElementException);)"}) {
            CHECK.due("[]", "in the source", () -> all(code, "(" + no + ")"));
        }
        CHECK.due("[]", "what is caught of what the machine throws", () -> all(code, "catch \\(.*?\\b(ArrayIndexOutOfBounds\\w+|NullPointer\\w+"
                + "|ArithmeticException|ClassCast\\w+|NegativeArraySize\\w+|ArrayStore\\w+|IndexOutOfBounds\\w+|RuntimeException|Exception|Throwable|Error)\\b"));
        CHECK.due("[]", "what else is thrown", () -> all(code, "throw new (?!(?:IllegalState|IllegalArgument|IndexOutOfBounds|Arithmetic"
                + "|UnsupportedOperation|NoSuchElement|Runtime)Exception\\()(\\w+)"));
        CHECK.due("[]", "other throws", () -> all(code, "(throw (?!new )\\w+)"));
        CHECK.due("[]", "other static functions of Arrays", () -> all(code, "(Arrays\\.(?!copyOf\\(|copyOfRange\\(|fill\\()\\w+)"));
        CHECK.due(true, "no long method", () -> longestMethod(code) <= 60);
    }

    private static String all(String code, String pattern) {
        Set<String> found = new TreeSet<>();
        Matcher matcher = Pattern.compile(pattern).matcher(code);
        while (matcher.find()) {
            found.add(matcher.group(1));
        }
        return found.toString();
    }

    private static int longestMethod(String code) {
        int longest = 0;
        int begun = -1;
        String[] lines = code.split("\n");
        for (int i = 0; i < lines.length; i++) {
            if (lines[i].matches(" +[\\w\\[\\] ]+\\(.*\\).*\\{")) {
                String head = lines[i].trim();
                if (!head.matches("(if|for|while|switch|else|return)\\b.*")) {
                    begun = i;
                }
            }
            if (begun >= 0 && lines[i].matches(" {4}(?: {4})?\\}")) {
                longest = Math.max(longest, i - begun + 1);
            }
        }
        return longest;
    }
}
