import java.lang.reflect.InvocationTargetException;
import java.lang.reflect.Method;
import java.util.ArrayList;
import java.util.HashMap;
import java.util.List;
import java.util.Map;
import java.util.regex.Pattern;

/**
 * Runs of calls on new signs, told as the document tells its example: "risk(5) = 0; risk(61) =
 * throws IllegalArgumentException". Behind each run its calls that threw are left out on a twin,
 * which must then answer all that can be asked as the sign does: such a call changes nothing.
 */
final class Runs {
    /** Nothing is promised of a sign behind so many calls. */
    static final int MOST_CALLS = 512;

    private static final Map<Class<?>, Map<String, Method>> METHODS = new HashMap<>();
    private static final Pattern COMMA = Pattern.compile("\\s*,\\s*");

    private int right;
    private int wrong;

    /** One call of a run and what it answered. */
    private record Answer(String call, String got) {
        boolean isThrown() {
            return got.contains("throws ");
        }
    }

    void run(String name, String... texts) {
        Noblesign sign = new Noblesign();
        List<Answer> answers = new ArrayList<>();
        for (String step : steps(String.join(";", texts))) {
            int equal = step.lastIndexOf(" = ");
            String call = equal < 0 ? step : step.substring(0, equal);
            String got = answer(sign, call);
            answers.add(new Answer(call, got));
            if (equal >= 0) {
                due(name + ": " + call, got, step.substring(equal + 3).trim());
            } else if (got.contains("throws ")) {
                due(name + ": " + call, got, "no exception");
            }
        }
        checkTwin(name, sign, answers);
    }

    private void checkTwin(String name, Noblesign sign, List<Answer> answers) {
        boolean isShort = answers.size() + Questions.ALL.size() < MOST_CALLS;
        due(name + ": it leaves the questions their calls", String.valueOf(isShort), "true");
        Noblesign twin = new Noblesign();
        for (Answer answer : answers) {
            if (!answer.isThrown()) {
                due(name + ": again " + answer.call(), answer(twin, answer.call()), answer.got());
            }
        }
        for (String call : Questions.ALL) {
            due(name + ": behind the run " + call, answer(sign, call), answer(twin, call));
        }
        due(name + ": behind the run isSound()", answer(sign, "isSound()"), "true");
    }

    void due(String what, String got, String want) {
        if (got.equals(want)) {
            right++;
        } else {
            wrong++;
            System.out.println(what + " answered " + got + ", due is " + want);
        }
    }

    void end() {
        System.out.println(right + " answers are as due, " + wrong + " are not");
        if (wrong > 0 || right == 0) {
            System.exit(1);
        }
    }

    /** The calls that a text tells, each with its answer if it is told. */
    static List<String> steps(String text) {
        List<String> steps = new ArrayList<>();
        for (String step : text.split(";")) {
            String one = step.replaceAll("\\s+", " ").trim();
            if (!one.isEmpty()) {
                steps.add(one);
            }
        }
        return steps;
    }

    /** What a call told as a text answers, as a text. */
    static String answer(Object sign, String call) {
        int open = call.indexOf('(');
        String inside = call.substring(open + 1, call.lastIndexOf(')')).trim();
        Method method = methodOf(sign.getClass(), call.substring(0, open));
        Class<?>[] types = method.getParameterTypes();
        String[] words = types.length == 0 ? new String[0] : COMMA.split(inside);
        Object[] values = new Object[types.length];
        for (int i = 0; i < types.length; i++) {
            values[i] = valueOf(types[i], words[i]);
        }
        try {
            return String.valueOf(method.invoke(sign, values));
        } catch (InvocationTargetException e) {
            Throwable thrown = e.getCause();
            String thrower = thrown.getStackTrace()[0].getClassName();
            // What the machine or the library throws by itself begins elsewhere, or bears another name.
            boolean isOwn = thrower.equals(sign.getClass().getName());
            return (isOwn ? "throws " : "the machine throws ") + thrown.getClass().getSimpleName();
        } catch (IllegalAccessException e) {
            throw new IllegalStateException(call, e);
        }
    }

    private static Method methodOf(Class<?> type, String name) {
        Method method = METHODS.computeIfAbsent(type, Runs::methodsOf).get(name);
        if (method == null) {
            throw new IllegalStateException("there is no method " + name);
        }
        return method;
    }

    private static Map<String, Method> methodsOf(Class<?> type) {
        Map<String, Method> methods = new HashMap<>();
        for (Method method : type.getDeclaredMethods()) {
            methods.put(method.getName(), method);
        }
        return methods;
    }

    private static Object valueOf(Class<?> type, String word) {
        if (type == boolean.class) {
            return Boolean.valueOf(word);
        }
        if (type == char.class) {
            return word.charAt(1);
        }
        return Integer.valueOf(word);
    }
}
