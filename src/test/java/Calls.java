import java.lang.reflect.InvocationTargetException;
import java.lang.reflect.Method;
import java.util.HashMap;
import java.util.Map;
import java.util.regex.Matcher;
import java.util.regex.Pattern;

/** Makes calls by their names, on HayTalk and on Model alike. */
final class Calls {
    private static final Pattern CALL = Pattern.compile("([a-z]+)\\(([^)]*)\\)");
    private static final Map<Class<?>, Map<String, Method>> METHODS = new HashMap<>();

    private Calls() {
    }

    static int answer(Object on, String name, int... numbers) {
        Method method = METHODS.computeIfAbsent(on.getClass(), Calls::methodsOf).get(name);
        Object[] each = new Object[method.getParameterCount()];
        for (int i = 0; i < each.length; i++) {
            each[i] = numbers[i];
        }
        try {
            return (int) method.invoke(on, each);
        } catch (IllegalAccessException | InvocationTargetException e) {
            throw new IllegalStateException(name, e);
        }
    }

    private static Map<String, Method> methodsOf(Class<?> type) {
        Map<String, Method> methods = new HashMap<>();
        for (Method method : type.getDeclaredMethods()) {
            methods.putIfAbsent(method.getName(), method);
        }
        return methods;
    }

    /** Makes a call that is told as in "rake(0,1,2)". */
    static int answerTold(Object on, String told) {
        Matcher call = CALL.matcher(told);
        if (!call.matches()) {
            throw new IllegalArgumentException(told);
        }
        String[] each = call.group(2).isEmpty() ? new String[0] : call.group(2).split(",");
        int[] numbers = new int[each.length];
        for (int i = 0; i < each.length; i++) {
            numbers[i] = number(each[i]);
        }
        return answer(on, call.group(1), numbers);
    }

    /** A number as it is told: by its name, as a set of WORDS {012}, or by its figures. */
    static int number(String told) {
        switch (told) {
            case "BAD":
                return HayTalk.BAD;
            case "NO":
                return HayTalk.NO;
            case "FULL":
                return HayTalk.FULL;
            case "NONE":
                return HayTalk.NONE;
            case "MIN":
                return Integer.MIN_VALUE;
            case "MAX":
                return Integer.MAX_VALUE;
            default:
                return told.startsWith("{") ? Due.set(told.substring(1, told.length() - 1)) : Integer.parseInt(told);
        }
    }
}
