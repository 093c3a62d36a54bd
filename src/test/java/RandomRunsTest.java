import java.lang.reflect.InvocationTargetException;
import java.lang.reflect.Method;
import java.util.ArrayList;
import java.util.Collections;
import java.util.HashMap;
import java.util.List;
import java.util.Map;
import java.util.TreeMap;

/** Makes the same calls of the cabinet and of Model; each answer, or exception, and each checksum is to be one. */
public final class RandomRunsTest {
    private static final int RUNS = 1200;
    /** With the checksum behind each of them twice as many: what calls behind the 512th answer is free. */
    private static final int CALLS = 256;

    /**
     * What the arguments are: s a slot, n a size, p a place, l a length of a cycle, e an exponent or a
     * number of things, r a row, b true or false, c a sign, L any long, i any int, g the things of a group.
     */
    private static final String[] CALLS_TO_MAKE = {
        "identity s n", "copy s s", "type c", "erase", "signAt p", "read s n", "cycles s", "size s", "at s p",
        "undo", "rank s", "unrank s n", "next s", "previous s", "skip s L", "compare s s", "multiply s s s",
        "invert s", "power s L", "conjugate s s s", "order s", "sign s", "cyclesOf s l", "isAlike s s",
        "hasRoot s e", "swap s p p", "rotate s i", "reverse s", "flip s p", "riffle s b", "riffles n b",
        "inversions s", "code s p", "decode s n", "swaps s", "flips s", "runs s", "longest s", "shape s r",
        "entry s b r r", "exchange s s", "generate s e", "isMember s", "word s", "orbit g", "stabiliser g",
        "contains s s", "avoiders s e", "leastTurn", "necklaces l e", "held", "checksum", "isSound"};

    private static long state;
    private static int wrong = 0;
    private static final Map<String, Integer> ANSWERED = new TreeMap<>();
    private static final Map<String, Method[]> METHODS = new HashMap<>();

    private ArrangementCabinet cabinet = new ArrangementCabinet();
    private final Model model = new Model();
    private final List<String> log = new ArrayList<>();
    private int most;
    private int calls = 0;

    /** One congruential row of numbers: every run of the test is the same. */
    private static int below(int bound) {
        state = state * 6364136223846793005L + 1442695040888963407L;
        return (int) ((state >>> 33) % bound);
    }

    public static void main(String[] args) throws Exception {
        for (String told : CALLS_TO_MAKE) {
            String name = told.split(" ")[0];
            for (Method method : ArrangementCabinet.class.getMethods()) {
                if (method.getName().equals(name) && method.getDeclaringClass() == ArrangementCabinet.class) {
                    METHODS.put(name, new Method[] {
                        method, Model.class.getMethod(name, method.getParameterTypes())});
                }
            }
        }
        int[] sizes = {3, 4, 5, 6, 7, 7, 12, 24};
        for (int run = 0; run < RUNS && wrong == 0; run++) {
            state = run * 7919L + 17L;
            new RandomRunsTest().run(sizes[run % sizes.length], run);
        }
        for (String told : CALLS_TO_MAKE) {
            String name = told.split(" ")[0];
            if (ANSWERED.getOrDefault(name + " answers", 0) < 50) {
                System.out.println(name + " answered too seldom to tell");
                wrong++;
            }
        }
        System.out.println(RUNS + " runs of " + CALLS + " calls, " + wrong + " wrong");
        System.exit(wrong == 0 ? 0 : 1);
    }

    private void run(int greatestSize, int number) throws Exception {
        most = greatestSize;
        while (calls < CALLS && wrong == 0) {
            int dice = below(100);
            if (dice < 8) {
                make("identity", below(10), 1 + below(most));
            } else if (dice < 12) {
                make("identity", below(10), most);
            } else if (dice < 17) {
                typeAll(cyclesText());
                make("read", below(10), most);
            } else if (dice < 21) {
                typeAll(codesText());
                make("decode", below(10), most);
            } else if (dice < 25) {
                typeAll(rankText());
                make("unrank", below(10), most);
            } else if (dice < 26) {
                typeAll(noise(80));
            } else if (dice < 28) {
                group();
            } else {
                String[] parts = CALLS_TO_MAKE[below(CALLS_TO_MAKE.length)].split(" ");
                Object[] arguments = new Object[parts.length - 1];
                for (int i = 0; i < arguments.length; i++) {
                    arguments[i] = argument(parts[i + 1].charAt(0));
                }
                make(parts[0], arguments);
            }
        }
    }

    /** A group of one size, and what is asked of it: by single calls this would come about too seldom. */
    private void group() throws Exception {
        int size = Math.min(7, most - below(2));
        int many = 1 + below(4);
        int first = below(11 - many);
        for (int slot = first; slot < first + many; slot++) {
            make("identity", slot, size);
            make(below(3) == 0 ? "rotate" : "copy", slot, below(2) == 0 ? 1 : slot);
            make("swap", slot, below(size), below(size));
            make("swap", slot, below(size), below(size));
        }
        make("generate", first, many);
        for (int call = 0; call < 6; call++) {
            make("multiply", first + below(many), below(10), below(10));
            make("isMember", below(10));
            make("word", below(10));
            make("orbit", below(size));
            make("stabiliser", below(size + 1));
        }
        make("isSound");
    }

    private void typeAll(String told) throws Exception {
        make("erase");
        for (char sign : told.toCharArray()) {
            make("type", sign);
        }
    }

    private void make(String name, Object... arguments) throws Exception {
        if (calls >= CALLS || wrong > 0) {
            return;
        }
        calls++;
        Method[] methods = METHODS.get(name);
        Object got = answer(methods[0], cabinet, arguments);
        Object due = answer(methods[1], model, arguments);
        String told = name + java.util.Arrays.toString(arguments);
        log.add(told + " -> " + got);
        String kind = due instanceof Class<?> ? ((Class<?>) due).getSimpleName() : "answers";
        ANSWERED.merge(name + " " + kind, 1, Integer::sum);
        boolean isSame = got.equals(due) && cabinet.checksum() == model.checksum();
        if (!isSame) {
            wrong++;
            log.forEach(System.out::println);
            System.out.println("due was " + due + ", the checksums " + cabinet.checksum() + " and "
                    + model.checksum());
        }
    }

    private static Object answer(Method method, Object subject, Object[] arguments) throws Exception {
        try {
            return method.invoke(subject, arguments);
        } catch (InvocationTargetException e) {
            return e.getCause().getClass();
        }
    }

    private Object argument(char kind) {
        boolean isOdd = below(25) == 0;
        switch (kind) {
            case 's':
                return isOdd ? wild(9) : below(10);
            case 'n':
                return isOdd ? wild(24) : 1 + below(most);
            case 'p':
                return isOdd ? wild(most) : below(most);
            case 'l':
                return isOdd ? wild(24) : 1 + below(below(2) == 0 ? 24 : 6);
            case 'e':
                return isOdd ? wild(9) : 1 + below(below(2) == 0 ? 9 : 4);
            case 'r':
                return isOdd ? wild(23) : below(below(2) == 0 ? 5 : 24);
            case 'g':
                return isOdd ? wild(7) : below(8);
            case 'b':
                return below(2) == 0;
            case 'c':
                return (char) (isOdd ? wild(126) : 32 + below(95));
            case 'i':
                return isOdd ? wild(24) : below(60) - 30;
            default:
                return isOdd ? wildLong() : (long) (below(2000) - 1000);
        }
    }

    private static int wild(int last) {
        int[] wild = {-1, last, last + 1, Integer.MIN_VALUE, Integer.MAX_VALUE, 0, 31, 127, 65535, -24};
        return wild[below(wild.length)];
    }

    private static long wildLong() {
        long[] wild = {Long.MIN_VALUE, Long.MAX_VALUE, 0L, -1L, 1L, state, -state, Long.MIN_VALUE + 1};
        return wild[below(wild.length)];
    }

    private static String noise(int most) {
        StringBuilder told = new StringBuilder();
        int many = below(most + 3);
        String signs = "()0123456789 +-abn~";
        for (int i = 0; i < many; i++) {
            told.append(signs.charAt(below(below(2) == 0 ? 3 : signs.length())));
        }
        return told.toString();
    }

    private static String spoilt(String told) {
        if (below(3) > 0) {
            return told;
        }
        int at = below(told.length() + 1);
        return told.substring(0, at) + noise(2) + told.substring(Math.min(told.length(), at + below(2)));
    }

    private String cyclesText() {
        List<Integer> things = Model.identityOf(most + (below(6) == 0 ? 1 : 0));
        for (int i = things.size() - 1; i > 0; i--) {
            Collections.swap(things, i, below(i + 1));
        }
        StringBuilder told = new StringBuilder();
        boolean isOpen = false;
        for (int thing : things.subList(0, below(things.size() + 1))) {
            told.append(isOpen ? " " : "(").append(below(9) == 0 ? "0" : "").append(thing);
            isOpen = below(3) > 0;
            told.append(isOpen ? "" : ")");
        }
        return spoilt(isOpen ? told + ")" : told.toString());
    }

    private String codesText() {
        StringBuilder told = new StringBuilder();
        for (int left = most; left > 0; left--) {
            told.append("0123456789abcdefghijklmno".charAt(below(30) == 0 ? left : below(left)));
        }
        return spoilt(told.toString());
    }

    private String rankText() {
        java.math.BigInteger all = Model.factorial(most);
        java.math.BigInteger rank = java.math.BigInteger.valueOf(state).multiply(all).shiftRight(63).abs();
        int dice = below(12);
        if (dice == 0) {
            rank = all.subtract(java.math.BigInteger.ONE);
        } else if (dice == 1) {
            rank = all;
        } else if (dice == 2) {
            rank = java.math.BigInteger.ZERO;
        } else if (dice == 3) {
            rank = all.multiply(all);
        }
        String[] ahead = {"", "", "", "", "+", "-", "0", "000", "+0", "-0"};
        return spoilt(ahead[below(ahead.length)] + rank);
    }
}
