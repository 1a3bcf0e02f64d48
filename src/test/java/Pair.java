import java.lang.reflect.Method;
import java.util.ArrayList;
import java.util.Arrays;
import java.util.HashMap;
import java.util.List;
import java.util.Map;

/** A controller and the plain model of it, which get the same calls and must answer alike. */
final class Pair {
    private static final Map<String, Method> OF_CONTROLLER = methodsOf(BellController.class);
    private static final Map<String, Method> OF_MODEL = methodsOf(PlainModel.class);

    private final BellController controller = new BellController();
    private final PlainModel model = new PlainModel();
    private final List<String> history = new ArrayList<>();
    private String story = "";

    private static Map<String, Method> methodsOf(Class<?> type) {
        Map<String, Method> methods = new HashMap<>();
        for (Method method : type.getDeclaredMethods()) {
            methods.put(method.getName(), method);
        }
        return methods;
    }

    /** Answers what the model answers. */
    int call(String name, Object... arguments) {
        Object got;
        Object want;
        try {
            want = OF_MODEL.get(name).invoke(model, arguments);
            got = OF_CONTROLLER.get(name).invoke(controller, arguments);
        } catch (ReflectiveOperationException e) {
            throw new IllegalStateException(name + Arrays.toString(arguments), e);
        }
        history.add(name + Arrays.toString(arguments) + " answered " + got);
        if (!got.equals(want) && !isWrong()) {
            List<String> latest = history.subList(Math.max(0, history.size() - 30), history.size());
            story = "call " + history.size() + ": " + name + Arrays.toString(arguments) + " answered " + got
                    + ", due is " + want + "\n    " + String.join("\n    ", latest);
        }
        return (Integer) want;
    }

    /** The arguments of the calls of appendBytes that bring a text into the buffer, filled up with spaces. */
    static List<Object[]> wordsOf(String text) {
        List<Object[]> calls = new ArrayList<>();
        for (int start = 0; start < text.length(); start += 20) {
            Object[] words = {0, 0, 0, 0, 0};
            for (int i = 0; i < 20; i++) {
                int sign = start + i < text.length() ? text.charAt(start + i) : ' ';
                words[i / 4] = (Integer) words[i / 4] << 8 | sign;
            }
            calls.add(words);
        }
        return calls;
    }

    void load(int which, String text) {
        for (Object[] words : wordsOf(text)) {
            call("appendBytes", words);
        }
        call("loadPattern", which, text.length());
    }

    PlainModel model() {
        return model;
    }

    int calls() {
        return history.size();
    }

    boolean isWrong() {
        return !story.isEmpty();
    }

    /** The first call whose answers were not alike, and the latest calls before it. */
    String story() {
        return story;
    }
}
