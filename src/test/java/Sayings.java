import java.io.IOException;
import java.nio.file.Files;
import java.nio.file.Path;
import java.util.ArrayList;
import java.util.Arrays;
import java.util.List;
import java.util.Map;
import java.util.TreeMap;
import java.util.TreeSet;
import java.util.regex.Matcher;
import java.util.regex.Pattern;

/**
 * What the tests of boundaries share: a sentence, which has to stand in the document as it is quoted, and calls
 * held against it, each in a room of its own.
 */
abstract class Sayings {
    static final int TERMS = 0;
    static final String INDEX = "throws.IndexOutOfBoundsException";
    static final String NONE = "throws.NoSuchElementException";
    static final String ARGUMENT = "throws.IllegalArgumentException";
    static final String STATE = "throws.IllegalStateException";
    static final String NUMBER = "throws.NumberFormatException";
    static final String UNSUPPORTED = "throws.UnsupportedOperationException";

    /**
     * Slots 0 to 8 hold 1 0 2 3, 3 0 1 2, the identity of 5, that of 24 turned round, 0, the identities of 6, 7
     * and 8, and 2 3 0 1; slot 9 holds none. The group is that of slot 0. Of fourteen calls the first two are
     * forgotten.
     */
    static final String FURNISHED = "identity 8 24; identity 0 4; swap 0 0 1; identity 1 4; rotate 1 1; "
            + "identity 2 5; identity 3 24; reverse 3; identity 4 1; identity 5 6; identity 6 7; identity 7 8; "
            + "identity 8 4; rotate 8 2; generate 0 1";
    static final String WITHOUT_GROUP = FURNISHED.replace("; generate 0 1", "");

    /** Calls behind which the cabinet is as a new one, but all that it may use again inside was used. */
    private static final String USED = "identity 0 24; reverse 0; rotate 0 5; skip 0 -123456789; rank 0; cycles 0; "
            + "order 0; shape 0 0; exchange 0 1; isAlike 0 1; identity 2 6; flips 2; identity 3 5; contains 0 3; "
            + "avoiders 3 6; riffles 24 false; typed 543210; decode 4 6; typed (0 1)(2 3; read 4 6; typed 9; "
            + "decode 4 6; isSound; erase; kept";

    private static final String[] NO_SLOTS = {"-1", "10", "-2147483648", "2147483647"};
    private static final Map<Integer, String> SECTIONS = new TreeMap<>();
    private static final TreeSet<String> SAID = new TreeSet<>();

    private static String said = "";
    private static int section = 0;
    private static String[] setups = {};
    private static int checks = 0;
    private static int wrong = 0;

    static {
        try {
            readSections(Files.readString(Path.of("../shared/DOC.md")));
        } catch (IOException e) {
            throw new AssertionError(e);
        }
    }

    private static void readSections(String document) {
        for (String part : document.split("\n## ")) {
            Matcher promise = Pattern.compile("Promise (\\d+): .*").matcher(part.split("\n")[0]);
            int number = promise.matches() ? Integer.parseInt(promise.group(1)) : TERMS;
            SECTIONS.merge(number, oneLine(part), (first, second) -> first + " " + second);
        }
    }

    private static String oneLine(String text) {
        return text.replaceAll("\\s+", " ");
    }

    /** What is held against this sentence comes behind it, in a furnished room whose text is 'ab'. */
    static void says(int promise, String sentence) {
        section = promise;
        said = sentence;
        SAID.add(promise + " " + sentence);
        setups = new String[] {FURNISHED, "typed ab"};
        if (!SECTIONS.get(promise).contains(sentence)) {
            fault("does not stand in the document");
        }
    }

    /** The room of the calls that come behind it. */
    static void room(String... calls) {
        setups = calls;
    }

    private static void fault(String told) {
        wrong++;
        System.out.println((section == TERMS ? "Terms" : "Promise " + section) + ", '" + said + "': " + told);
    }

    private static String[] with(String call) {
        String[] calls = Arrays.copyOf(setups, setups.length + 1);
        calls[setups.length] = call;
        return calls;
    }

    private static String[] behind(String call) {
        String[] calls = new String[setups.length + 1];
        System.arraycopy(setups, 0, calls, 1, setups.length);
        calls[0] = call;
        return calls;
    }

    /** The last one of the calls answers what is due, on a new cabinet and on one that was used. */
    static void lets(String calls, Object due) {
        due(calls, new Room(setups).answer(calls), due);
        due("behind others, " + calls, new Room(behind(USED)).answer(calls), due);
    }

    static void due(String told, Object got, Object due) {
        checks++;
        if (!String.valueOf(got).equals(String.valueOf(due))) {
            fault(told + " answers " + got + ", due is " + due);
        }
    }

    /** Each of the calls, or the last one of several, throws, and changes nothing. */
    static void refuses(String exception, String... calls) {
        for (String call : calls) {
            lets(call, exception);
            int last = call.lastIndexOf("; ");
            String ahead = last < 0 ? "" : call.substring(0, last);
            Room refusing = new Room(setups);
            refusing.answer(call);
            sameState(call, refusing, new Room(with(ahead)));
        }
    }

    /** Each of the calls answers, and leaves the state as it is. */
    static void leaves(String... calls) {
        for (String call : calls) {
            sameState(call, new Room(with(call)), new Room(setups));
        }
    }

    static void sameState(String call, Room got, Room due) {
        checks++;
        List<String> gotState = got.drained();
        List<String> dueState = due.drained();
        if (!gotState.equals(dueState)) {
            gotState.removeAll(dueState);
            fault(call + " changes the state: " + gotState);
        }
    }

    /** There is no such slot in place of the '#', but 0 and 9, which hold 1 0 2 3 here, are slots. */
    static void needsSlot(String call, Object due) {
        for (String slot : NO_SLOTS) {
            refuses(INDEX, call.replace("#", slot));
        }
        for (String slot : new String[] {"0", "9"}) {
            lets("copy 0 9; " + call.replace("#", slot), due);
        }
    }

    /** The slot in place of the '#' holds none, as at first and again behind an undo. */
    static void needsHeld(String... calls) {
        for (String call : calls) {
            refuses(NONE, call.replace("#", "9"), "identity 9 4; undo; " + call.replace("#", "9"));
        }
    }

    static String repeated(String signs, int many) {
        return signs.repeat(many);
    }

    static String joined(int from, int to) {
        List<String> numbers = new ArrayList<>();
        for (int number = from; from <= to ? number <= to : number >= to; number += from <= to ? 1 : -1) {
            numbers.add(String.valueOf(number));
        }
        return String.join(" ", numbers);
    }

    /** Each sentence of the document's promises that tells of an exception has been said. */
    static void needsEachThrows() {
        for (Map.Entry<Integer, String> entry : SECTIONS.entrySet()) {
            Matcher told = Pattern.compile("Throws `\\w+` if .*?(?= Throws `| ##|$)").matcher(entry.getValue());
            while (entry.getKey() != TERMS && told.find()) {
                section = entry.getKey();
                said = told.group().trim();
                checks++;
                if (!SAID.contains(section + " " + said)) {
                    fault("has no test");
                }
            }
        }
    }

    static void end() {
        System.out.println(SAID.size() + " sentences, " + checks + " checks, " + wrong + " wrong");
        System.exit(wrong == 0 ? 0 : 1);
    }
}
