import java.lang.reflect.Field;
import java.lang.reflect.InvocationTargetException;
import java.lang.reflect.Method;
import java.lang.reflect.Modifier;
import java.util.ArrayList;
import java.util.HashMap;
import java.util.List;
import java.util.Map;
import java.util.regex.Matcher;
import java.util.regex.Pattern;

/**
 * Calls told as text, so that a run can be read, counted and made again on another house.
 *
 * <p>A script has a step on each line, or several with ; between them: a call, and the answer that is due behind " : ".
 * Behind no answer, anything but an exception is right. IllegalArgument, IllegalState and NoSuchElement stand for these
 * exceptions. A number may be told as 10^9, 10^9+1, or by the name of a constant; int.MIN, int.MAX, long.MIN and long.MAX
 * are numbers too. "12 x call" makes a call so many times; "each call" makes it by each way to round, and has eight answers;
 * "row(3)" stands for rowOf(3, 0) up to rowOf(3, 6), and has seven answers.
 */
final class Script {
    /** A call, and what is due. */
    record Step(String call, String due) {
    }

    private record Bound(Method method, Object[] values) {
    }

    private static final Pattern CALL = Pattern.compile("(\\w+)\\((.*)\\)");
    private static final Pattern POWER = Pattern.compile("(-?)(\\d+)\\^(\\d+)([+-]\\d+)?");
    private static final Pattern MANY = Pattern.compile("(\\d+) x (.*)");
    private static final String ANYTHING = "";
    private static final Map<String, Bound> BOUND = new HashMap<>();

    private Script() {
    }

    static List<Step> stepsOf(String script) {
        List<Step> steps = new ArrayList<>();
        for (String line : script.split("[\\n;]")) {
            if (!line.isBlank()) {
                String[] parts = line.strip().split(" : ");
                addSteps(steps, parts[0].strip(), parts.length < 2 ? new String[0] : parts[1].strip().split(" +"));
            }
        }
        return steps;
    }

    private static void addSteps(List<Step> steps, String call, String[] dues) {
        Matcher many = MANY.matcher(call);
        if (many.matches()) {
            for (int i = 0; i < Integer.parseInt(many.group(1)); i++) {
                addSteps(steps, many.group(2), dues);
            }
        } else if (call.startsWith("each ")) {
            for (int mode = 0; mode <= 7; mode++) {
                steps.add(new Step("setMode(" + mode + ")", ANYTHING));
                steps.add(new Step(call.substring(5), dues[mode]));
            }
            steps.add(new Step("setMode(HALF_EVEN)", ANYTHING));
        } else if (call.startsWith("row(")) {
            for (int what = 0; what < dues.length; what++) {
                steps.add(new Step("rowOf(" + call.substring(4, call.length() - 1) + ", " + what + ")", dues[what]));
            }
        } else {
            steps.add(new Step(call, dues.length == 0 ? ANYTHING : dues[0]));
        }
    }

    static boolean isRefusal(Step step) {
        return step.due.equals("IllegalArgument") || step.due.equals("IllegalState") || step.due.equals("NoSuchElement");
    }

    /** What a call of a house, or of its reference, answers, as text: a float ends with f, a double has a point. */
    static String answer(Object house, String call) {
        Bound bound = BOUND.computeIfAbsent(house.getClass().getName() + "." + call, key -> bind(house.getClass(), call));
        try {
            Object answer = bound.method.invoke(house, bound.values);
            return answer + (answer instanceof Float ? "f" : "");
        } catch (InvocationTargetException e) {
            return e.getCause().getClass().getSimpleName().replaceFirst("Exception$", "");
        } catch (IllegalAccessException e) {
            throw new IllegalStateException(e);
        }
    }

    private static Bound bind(Class<?> kind, String call) {
        Matcher matcher = CALL.matcher(call);
        if (!matcher.matches()) {
            throw new IllegalStateException("no call: " + call);
        }
        String[] told = matcher.group(2).isBlank() ? new String[0] : matcher.group(2).split(",");
        Method method = methodOf(kind, matcher.group(1), told.length);
        Object[] values = new Object[told.length];
        for (int i = 0; i < told.length; i++) {
            values[i] = valueOf(told[i].strip(), method.getParameterTypes()[i]);
        }
        return new Bound(method, values);
    }

    static boolean isDue(Step step, String answer) {
        if (step.due.equals(ANYTHING)) {
            return !answer.matches("[A-Z][A-Za-z]+") || answer.equals("NaN");
        }
        return answer.equals(isNumber(step.due) ? Long.toString(numberOf(step.due)) : step.due);
    }

    private static Method methodOf(Class<?> kind, String name, int parameters) {
        for (Method method : kind.getDeclaredMethods()) {
            if (method.getName().equals(name) && method.getParameterCount() == parameters && !Modifier.isPrivate(method.getModifiers())) {
                return method;
            }
        }
        throw new IllegalStateException("no method " + name + " of " + parameters + " parameters");
    }

    private static Object valueOf(String told, Class<?> type) {
        if (type == boolean.class) {
            return Boolean.valueOf(told);
        }
        long number = numberOf(told);
        return type == int.class ? (Object) Math.toIntExact(number) : (Object) number;
    }

    private static boolean isNumber(String told) {
        return told.matches("-?\\d+|[A-Z_]+|(int|long)\\.(MIN|MAX)") || POWER.matcher(told).matches();
    }

    private static long numberOf(String told) {
        Matcher power = POWER.matcher(told);
        if (power.matches()) {
            long number = 1;
            for (int i = 0; i < Integer.parseInt(power.group(3)); i++) {
                number = Math.multiplyExact(number, Long.parseLong(power.group(2)));
            }
            return (power.group(1).isEmpty() ? number : -number) + (power.group(4) == null ? 0 : Long.parseLong(power.group(4)));
        }
        switch (told) {
            case "int.MIN":
                return Integer.MIN_VALUE;
            case "int.MAX":
                return Integer.MAX_VALUE;
            case "long.MIN":
                return Long.MIN_VALUE;
            case "long.MAX":
                return Long.MAX_VALUE;
            default:
                return told.matches("[A-Z_]+") ? constant(told) : Long.parseLong(told);
        }
    }

    private static int constant(String name) {
        try {
            Field field = AnnuityHouse.class.getField(name);
            return field.getInt(null);
        } catch (ReflectiveOperationException e) {
            throw new IllegalStateException(e);
        }
    }
}
