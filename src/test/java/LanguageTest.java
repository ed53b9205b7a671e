import java.io.IOException;
import java.util.ArrayList;
import java.util.HashMap;
import java.util.LinkedHashMap;
import java.util.List;
import java.util.Map;
import java.util.Set;
import java.util.TreeSet;

/** The rules of LANGUAGE.md that can be seen in the compiled classes, by the numbers of the rules. */
public final class LanguageTest {
    private static final int MOST_CLASSES = 12;
    private static final int MOST_PARAMETERS = 7;
    private static final int DEEPEST = 8;
    private static final String OWN = "AnnuityHouse(\\$\\w+)?";
    private static final String THROWN = "java/lang/(IllegalState|IllegalArgument|IndexOutOfBounds|Arithmetic|UnsupportedOperation"
            + "|Runtime)Exception|java/util/NoSuchElementException";
    private static final String NUMBER = "[IJSBCZDF]";
    private static final String TYPE = "\\[?(" + NUMBER + "|L" + OWN + ";)|\\[\\[[IJSBCDF]"
            + "|L(java/lang/(String|StringBuilder|Integer|Iterable|Comparable|Object)|java/util/(ArrayList|List|Iterator));";
    private static final String CONSTANT = "[IJZC]|Ljava/lang/String;|\\[[IJCB]|\\[?L" + OWN + ";";
    /** Class, name and type of the library's methods that may be called, by rule 4. */
    private static final String[] LIBRARY = {
        "java/lang/Object\\.<init>\\(\\)V", "java/lang/Enum\\.(<init>|valueOf)\\(.*", "(" + THROWN + ")\\.<init>\\((Ljava/lang/String;)?\\)V",
        "java/lang/String\\.((length|charAt|isEmpty|equals|substring|toCharArray)\\(.*|indexOf\\(I\\)I|<init>\\(\\[C\\)V)",
        "java/lang/StringBuilder\\.((<init>|charAt|setCharAt|setLength|deleteCharAt|reverse|length|toString)\\(.*"
            + "|append\\((C|I|Ljava/lang/String;)\\).*)",
        "java/util/(ArrayList|List)\\.(<init>|add|get|set|remove|size|isEmpty|clear|iterator|of)\\(.*", "java/util/Iterator\\.(hasNext|next)\\(.*",
        "java/lang/(Integer|Long|Math)\\.(?!\\w+Exact\\()\\w+\\([IJ]*\\)[IJZ]", "java/lang/Integer\\.(valueOf|intValue)\\(.*",
        "java/lang/System\\.arraycopy\\(.*", "java/util/Arrays\\.(copyOf|copyOfRange|fill)\\(\\[[IJSBCZDF].*", "\\[+.*\\.clone\\(\\).*"};
    private static final int REMAINDER_OF_FLOAT = 0x72, REMAINDER_OF_DOUBLE = 0x73, NEGATED_FLOAT = 0x76, NEGATED_DOUBLE = 0x77,
            PUT_STATIC = 0xb3, NEW = 0xbb, THROW = 0xbf, ENTER_MONITOR = 0xc2, LEAVE_MONITOR = 0xc3;

    private final Check check = new Check();
    private final List<ClassFile> classes = new ArrayList<>();
    private final Map<String, ClassFile.Member> methods = new LinkedHashMap<>();
    private final Map<String, Integer> depths = new HashMap<>();

    private LanguageTest() throws IOException {
        classes.add(ClassFile.of("AnnuityHouse"));
        for (Class<?> inside : AnnuityHouse.class.getDeclaredClasses()) {
            classes.add(ClassFile.of(inside.getName()));
        }
        for (ClassFile one : classes) {
            for (ClassFile.Member method : one.methods) {
                methods.put(one.name + "." + method.name() + method.type(), method);
            }
        }
    }

    public static void main(String[] args) throws IOException {
        LanguageTest test = new LanguageTest();
        test.instructions();
        test.kinds();
        test.exceptions();
        test.sizes();
        test.depth();
        test.check.end();
    }

    private void none(String rule, Set<String> found) {
        check.due("[]", rule, () -> found.toString());
    }

    /** Rules 2, 4, 6 and 13: what is called and made. */
    private void instructions() {
        Set<String> called = new TreeSet<>();
        Set<String> made = new TreeSet<>();
        Set<String> forbidden = new TreeSet<>();
        Set<Integer> wrong = Set.of(REMAINDER_OF_FLOAT, REMAINDER_OF_DOUBLE, NEGATED_FLOAT, NEGATED_DOUBLE, ENTER_MONITOR, LEAVE_MONITOR);
        methods.forEach((name, method) -> {
            for (ClassFile.Instruction told : method.code()) {
                String target = told.owner() + "." + told.name() + told.type();
                if (told.isCall() && !told.owner().matches(OWN) && !matchesAny(target, LIBRARY)) {
                    called.add(name + " calls " + target);
                }
                if (told.opcode() == NEW && !told.owner().matches(OWN + "|" + THROWN + "|java/lang/(String|StringBuilder)|java/util/ArrayList")) {
                    made.add(name + " makes " + told.owner());
                }
                if (wrong.contains(told.opcode()) || told.opcode() == PUT_STATIC && !method.name().equals("<clinit>")) {
                    forbidden.add(name + " holds " + Integer.toHexString(told.opcode()));
                }
            }
        });
        check.due(true, "instructions were read", () -> methods.values().stream().mapToInt(method -> method.code().size()).sum() > 1000);
        none("rules 2 and 4: calls beyond the library", called);
        none("rules 4 and 6: objects that are none of the program's", made);
        none("rules 3, 5 and 6: arithmetic of doubles, static state, monitors", forbidden);
    }

    private static boolean matchesAny(String text, String[] patterns) {
        for (String pattern : patterns) {
            if (text.matches(pattern)) {
                return true;
            }
        }
        return false;
    }

    /** Rules 3, 5 and 6: the kinds of fields, of static ones too, and the signs of texts. */
    private void kinds() {
        Set<String> fields = new TreeSet<>();
        Set<String> statics = new TreeSet<>();
        Set<String> texts = new TreeSet<>();
        Set<String> names = new TreeSet<>();
        for (ClassFile one : classes) {
            for (ClassFile.Member field : one.fields) {
                if (!field.type().matches(TYPE)) {
                    fields.add(one.name + "." + field.name());
                }
                if (field.is(ClassFile.STATIC) && !(field.is(ClassFile.FINAL) && field.type().matches(CONSTANT))) {
                    statics.add(one.name + "." + field.name());
                }
            }
            for (String text : one.texts) {
                if (!text.chars().allMatch(sign -> sign >= 1 && sign <= 127)) {
                    texts.add(text);
                }
            }
        }
        methods.forEach((name, method) -> {
            if (method.name().matches("equals|hashCode|toString")) {
                names.add(name);
            }
        });
        none("rule 3: kinds of fields", fields);
        none("rule 5: static fields", statics);
        none("rule 4: signs of texts", texts);
        none("rule 6: equals, hashCode and toString", names);
    }

    /** Rule 6: what is caught, and where it may be thrown. */
    private void exceptions() {
        Set<String> caught = new TreeSet<>();
        Set<String> thrown = new TreeSet<>();
        methods.forEach((name, method) -> {
            for (String kind : method.caught()) {
                if (!kind.matches(THROWN)) {
                    caught.add(name + " catches " + kind);
                }
            }
            if (method.holds(THROW) && (method.name().matches("<.*") || !method.caught().isEmpty())) {
                thrown.add(name);
            }
        });
        none("rule 6: what is caught", caught);
        none("rule 6: throws in constructors, and in methods that catch", thrown);
    }

    /** Rule 11: how many classes and parameters there are. */
    private void sizes() {
        Set<String> crowded = new TreeSet<>();
        methods.forEach((name, method) -> {
            String parameters = method.type().substring(1, method.type().indexOf(')'));
            if (parameters.replaceAll("\\[*(L[^;]*;|" + NUMBER + ")", "x").length() > MOST_PARAMETERS) {
                crowded.add(name);
            }
        });
        none("rule 11: methods of too many parameters", crowded);
        check.due(true, "rule 11: some twelve classes", () -> classes.size() <= MOST_CLASSES);
    }

    /** Rule 11: the library's methods count as one call more; a method that calls itself again is no deeper by it. */
    private void depth() {
        Set<String> deep = new TreeSet<>();
        for (String name : methods.keySet()) {
            int depth = depthOf(name, new TreeSet<>());
            if (depth > DEEPEST) {
                deep.add(name + " " + depth);
            }
        }
        none("rule 11: calls that go too deep", deep);
    }

    private int depthOf(String name, Set<String> open) {
        if (depths.containsKey(name)) {
            return depths.get(name);
        }
        int below = 0;
        ClassFile.Member method = methods.get(name);
        if (method != null && open.add(name)) {
            for (ClassFile.Instruction told : method.code()) {
                String target = told.owner() + "." + told.name() + told.type();
                if (told.isCall() && !open.contains(target)) {
                    below = Math.max(below, depthOf(target, open));
                }
            }
            open.remove(name);
        }
        depths.put(name, below + 1);
        return below + 1;
    }
}
