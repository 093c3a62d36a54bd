import java.lang.reflect.InvocationTargetException;
import java.lang.reflect.Method;
import java.lang.reflect.Modifier;
import java.util.ArrayList;
import java.util.HashMap;
import java.util.List;
import java.util.Map;

/**
 * One cabinet and the calls made of it. Calls are told as a text, "identity 0 5; riffle 0 true", a sign by its
 * code. Besides the face's calls there are: "typed X" types X in place of the text, "row 0" and "text" tell what a
 * slot and the text hold, and "kept" undoes all calls that are kept and tells how many there were.
 */
final class Room {
    private static final int MOST_CALLS = 512;
    private static final int MOST_UNDONE = 14;
    private static final int MOST_WORDS = 24;
    private static final Map<String, Method> FACE = new HashMap<>();

    static {
        for (Method method : ArrangementCabinet.class.getDeclaredMethods()) {
            if (Modifier.isPublic(method.getModifiers())) {
                FACE.put(method.getName(), method);
            }
        }
    }

    private final ArrangementCabinet cabinet = new ArrangementCabinet();
    private int calls = 0;

    /** A cabinet with which calls were made that throw nothing. */
    Room(String... setups) {
        for (String setup : setups) {
            if (!setup.isEmpty()) {
                mustAnswer(setup, answer(setup));
            }
        }
    }

    private static void mustAnswer(String call, String answer) {
        if (answer.startsWith("throws.")) {
            throw new AssertionError("a call of a setup: " + call + " " + answer);
        }
    }

    /** What the last one of the calls answers; those ahead of it throw nothing. */
    String answer(String told) {
        String[] parts = told.split("; ");
        for (int part = 0; part < parts.length - 1; part++) {
            mustAnswer(parts[part], one(parts[part]));
        }
        return one(parts[parts.length - 1]);
    }

    private String one(String call) {
        String[] parts = call.split(" ", 2);
        switch (parts[0]) {
            case "typed":
                return typed(parts.length > 1 ? parts[1] : "");
            case "row":
                return row(parts[1]);
            case "text":
                return text();
            case "kept":
                return kept();
            default:
                return ofFace(call.split(" "));
        }
    }

    private String typed(String told) {
        one("erase");
        for (char sign : told.toCharArray()) {
            mustAnswer("type " + sign, one("type " + (int) sign));
        }
        return String.valueOf(told.length());
    }

    private String row(String slot) {
        int size = Integer.parseInt(one("size " + slot));
        List<String> things = new ArrayList<>();
        for (int place = 0; place < size; place++) {
            things.add(one("at " + slot + " " + place));
        }
        return String.join(" ", things);
    }

    private String text() {
        StringBuilder told = new StringBuilder("'");
        String sign = one("signAt 0");
        while (!sign.startsWith("throws.")) {
            told.append(sign);
            sign = one("signAt " + (told.length() - 1));
        }
        return told.append("'").toString();
    }

    private String kept() {
        int many = 0;
        while (!one("undo").startsWith("throws.")) {
            many++;
        }
        return String.valueOf(many);
    }

    private String ofFace(String[] call) {
        calls++;
        if (calls > MOST_CALLS) {
            throw new AssertionError("what calls behind the 512th answer is free");
        }
        Method method = FACE.get(call[0]);
        Class<?>[] types = method.getParameterTypes();
        Object[] arguments = new Object[types.length];
        for (int i = 0; i < types.length; i++) {
            arguments[i] = argument(types[i], call[i + 1]);
        }
        try {
            return String.valueOf(method.invoke(cabinet, arguments));
        } catch (InvocationTargetException e) {
            return thrown(e.getCause());
        } catch (IllegalAccessException e) {
            throw new AssertionError(e);
        }
    }

    /** The exception's class itself, none below it, and whether the class has thrown it by a throw of its own. */
    private static String thrown(Throwable exception) {
        StackTraceElement[] from = exception.getStackTrace();
        boolean isOwn = from.length > 0 && from[0].getClassName().startsWith("ArrangementCabinet");
        String name = exception.getClass().getName().replaceFirst("^java\\.(lang|util)\\.", "");
        return "throws." + name + (isOwn ? "" : " from the library");
    }

    private static Object argument(Class<?> type, String told) {
        if (type == boolean.class) {
            return Boolean.valueOf(told);
        }
        if (type == long.class) {
            return Long.valueOf(told);
        }
        int number = Integer.parseInt(told);
        return type == char.class ? (Object) (char) number : (Object) number;
    }

    /** All that calls can tell of the state, what is kept and the group's words too. It is used up by it. */
    List<String> drained() {
        List<String> told = new ArrayList<>();
        for (String call : new String[] {"checksum", "held", "isSound", "text"}) {
            told.add(call + " " + one(call));
        }
        for (int slot = 0; slot < 10; slot++) {
            told.add("size " + one("size " + slot));
        }
        int size = tellGroup(told);
        for (int call = 0; call < MOST_UNDONE; call++) {
            told.add("undo " + one("undo") + ", checksum " + one("checksum"));
        }
        if (size > 0) {
            tellWords(told, size);
        }
        return told;
    }

    /** Answers the size of the group's arrangements, or -1. */
    private int tellGroup(List<String> told) {
        int size = -1;
        for (int number = 0; number <= 8; number++) {
            String many = one("stabiliser " + number);
            told.add("stabiliser " + many + ", orbit " + one("orbit " + number));
            size = many.startsWith("throws.") ? size : number;
        }
        return size;
    }

    private void tellWords(List<String> told, int size) {
        one("identity 0 " + size);
        boolean isMore = true;
        for (int member = 0; member < MOST_WORDS && isMore; member++) {
            one("erase");
            told.add("word " + one("word 0") + ", checksum " + one("checksum"));
            isMore = one("next 0").equals("true");
        }
    }
}
