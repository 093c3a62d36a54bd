import java.math.BigInteger;
import java.util.ArrayDeque;
import java.util.ArrayList;
import java.util.Arrays;
import java.util.Collections;
import java.util.Deque;
import java.util.HashMap;
import java.util.HashSet;
import java.util.LinkedHashMap;
import java.util.List;
import java.util.Map;
import java.util.NoSuchElementException;
import java.util.Set;
import java.util.TreeMap;

/**
 * What DOC.md says, written down anew and as slowly as one likes, with the Java library and by other ways
 * than the class takes: RandomRunsTest holds the answers of both against each other.
 */
public final class Model {
    private final List<List<Integer>> slots = new ArrayList<>(Collections.nCopies(10, null));
    private final Deque<Map.Entry<Integer, List<Integer>>> kept = new ArrayDeque<>();
    private String text = "";
    private int groupSize = 0;
    private Map<List<Integer>, String> words = new LinkedHashMap<>();

    private static void when(boolean applies, RuntimeException exception) {
        if (applies) {
            throw exception;
        }
    }

    private void slot(int... numbers) {
        for (int number : numbers) {
            when(number < 0 || number > 9, new IndexOutOfBoundsException());
        }
    }

    private void holding(int... numbers) {
        for (int number : numbers) {
            when(slots.get(number) == null, new NoSuchElementException());
        }
    }

    private static void argument(boolean isGood) {
        when(!isGood, new IllegalArgumentException());
    }

    private static void sizeInRange(int size) {
        argument(size >= 1 && size <= 24);
    }

    private void place(int slot, int place) {
        argument(place >= 0 && place < slots.get(slot).size());
    }

    private void become(int slot, List<Integer> row) {
        kept.addLast(new java.util.AbstractMap.SimpleEntry<>(slot, slots.get(slot)));
        if (kept.size() > 12) {
            kept.removeFirst();
        }
        slots.set(slot, List.copyOf(row));
    }

    private int becomeAndTellFirst(int slot, List<Integer> row) {
        become(slot, row);
        return row.get(0);
    }

    static List<Integer> identityOf(int size) {
        List<Integer> row = new ArrayList<>();
        for (int i = 0; i < size; i++) {
            row.add(i);
        }
        return row;
    }

    static List<Integer> product(List<Integer> left, List<Integer> right) {
        List<Integer> row = new ArrayList<>();
        for (int thing : right) {
            row.add(left.get(thing));
        }
        return row;
    }

    static List<Integer> inverse(List<Integer> row) {
        List<Integer> inverse = new ArrayList<>();
        for (int i = 0; i < row.size(); i++) {
            inverse.add(row.indexOf(i));
        }
        return inverse;
    }

    private static int fixed(List<Integer> row) {
        int fixed = 0;
        for (int i = 0; i < row.size(); i++) {
            fixed += row.get(i) == i ? 1 : 0;
        }
        return fixed;
    }

    static List<List<Integer>> cyclesIn(List<Integer> row) {
        List<List<Integer>> cycles = new ArrayList<>();
        Set<Integer> seen = new HashSet<>();
        for (int i = 0; i < row.size(); i++) {
            if (seen.add(i)) {
                List<Integer> cycle = new ArrayList<>(List.of(i));
                for (int at = row.get(i); at != i; at = row.get(at)) {
                    cycle.add(at);
                    seen.add(at);
                }
                cycles.add(cycle);
            }
        }
        return cycles;
    }

    private static Map<Integer, Integer> typeOf(List<Integer> row) {
        Map<Integer, Integer> type = new TreeMap<>();
        for (List<Integer> cycle : cyclesIn(row)) {
            type.merge(cycle.size(), 1, Integer::sum);
        }
        return type;
    }

    static BigInteger factorial(int n) {
        return n <= 1 ? BigInteger.ONE : factorial(n - 1).multiply(BigInteger.valueOf(n));
    }

    static BigInteger rankOf(List<Integer> row) {
        if (row.isEmpty()) {
            return BigInteger.ZERO;
        }
        int first = row.get(0);
        long lesser = row.stream().filter(thing -> thing < first).count();
        List<Integer> rest = row.subList(1, row.size());
        return factorial(rest.size()).multiply(BigInteger.valueOf(lesser)).add(rankOf(rest));
    }

    static List<Integer> ofRank(BigInteger rank, int size) {
        List<Integer> left = identityOf(size);
        List<Integer> row = new ArrayList<>();
        BigInteger rest = rank;
        for (int i = size - 1; i >= 0; i--) {
            BigInteger[] parts = rest.divideAndRemainder(factorial(i));
            row.add(left.remove(parts[0].intValueExact()));
            rest = parts[1];
        }
        return row;
    }

    private static int inversionsOf(List<Integer> row) {
        int many = 0;
        for (int i = 0; i < row.size(); i++) {
            for (int j = 0; j < i; j++) {
                many += row.get(j) > row.get(i) ? 1 : 0;
            }
        }
        return many;
    }

    public int identity(int slot, int size) {
        slot(slot);
        sizeInRange(size);
        become(slot, identityOf(size));
        return size;
    }

    public int copy(int slot, int to) {
        slot(slot, to);
        holding(slot);
        become(to, slots.get(slot));
        return slots.get(to).size();
    }

    public int type(char sign) {
        argument(sign >= ' ' && sign <= '~');
        when(text.length() == 80, new IllegalStateException());
        text += sign;
        return text.length();
    }

    public int erase() {
        int had = text.length();
        text = "";
        return had;
    }

    public char signAt(int place) {
        argument(place >= 0 && place < text.length());
        return text.charAt(place);
    }

    public int read(int slot, int size) {
        slot(slot);
        sizeInRange(size);
        String told = text;
        text = "";
        int fault = faultOfCycles(told, size);
        if (fault >= 0) {
            return -1 - fault;
        }
        List<Integer> row = identityOf(size);
        int many = 0;
        for (String cycle : told.replace('(', ' ').split("\\)")) {
            if (!cycle.isBlank()) {
                String[] things = cycle.trim().split(" ");
                for (int i = 0; i < things.length; i++) {
                    int to = Integer.parseInt(things[(i + 1) % things.length]);
                    row.set(Integer.parseInt(things[i]), to);
                }
                many++;
            }
        }
        become(slot, row);
        return many;
    }

    /** The length of the longest start of the text that can still be gone on with, or -1 if it is whole. */
    private static int faultOfCycles(String told, int size) {
        int signFault = 0;
        while (signFault < told.length()
                && told.substring(0, signFault + 1).matches("(\\(\\d+( \\d+)*\\))*(\\((\\d+( \\d+)*)? ?)?")
                && !told.substring(0, signFault + 1).endsWith("( ")) {
            signFault++;
        }
        java.util.regex.Matcher numbers = java.util.regex.Pattern.compile("\\d+").matcher(told);
        Set<BigInteger> seen = new HashSet<>();
        while (numbers.find() && numbers.start() < signFault) {
            BigInteger number = new BigInteger(numbers.group());
            if (number.compareTo(BigInteger.valueOf(size)) >= 0 || !seen.add(number)) {
                return numbers.start();
            }
        }
        if (signFault < told.length()) {
            return signFault;
        }
        return told.isEmpty() || told.endsWith(")") ? -1 : told.length();
    }

    public int cycles(int slot) {
        slot(slot);
        holding(slot);
        StringBuilder told = new StringBuilder();
        for (List<Integer> cycle : cyclesIn(slots.get(slot))) {
            if (cycle.size() > 1) {
                told.append(cycle.toString().replace(",", "").replace('[', '(').replace(']', ')'));
            }
        }
        text = told.toString();
        return text.length();
    }

    public int size(int slot) {
        slot(slot);
        return slots.get(slot) == null ? 0 : slots.get(slot).size();
    }

    public int at(int slot, int place) {
        slot(slot);
        holding(slot);
        place(slot, place);
        return slots.get(slot).get(place);
    }

    public int undo() {
        when(kept.isEmpty(), new NoSuchElementException());
        Map.Entry<Integer, List<Integer>> last = kept.removeLast();
        slots.set(last.getKey(), last.getValue());
        return last.getKey();
    }

    public int rank(int slot) {
        slot(slot);
        holding(slot);
        text = rankOf(slots.get(slot)).toString();
        return text.length();
    }

    public int unrank(int slot, int size) {
        slot(slot);
        when(!text.matches("[+-]?[0-9]+"), new NumberFormatException());
        sizeInRange(size);
        BigInteger rank = new BigInteger(text);
        argument(rank.signum() >= 0 && rank.compareTo(factorial(size)) < 0);
        text = "";
        return becomeAndTellFirst(slot, ofRank(rank, size));
    }

    private BigInteger stepped(int slot, long by) {
        BigInteger all = factorial(slots.get(slot).size());
        BigInteger rank = rankOf(slots.get(slot)).add(BigInteger.valueOf(by));
        become(slot, ofRank(rank.mod(all), slots.get(slot).size()));
        return rank;
    }

    public boolean next(int slot) {
        slot(slot);
        holding(slot);
        return stepped(slot, 1).compareTo(factorial(slots.get(slot).size())) < 0;
    }

    public boolean previous(int slot) {
        slot(slot);
        holding(slot);
        return stepped(slot, -1).signum() >= 0;
    }

    public int skip(int slot, long by) {
        slot(slot);
        holding(slot);
        stepped(slot, by);
        return slots.get(slot).get(0);
    }

    public int compare(int slot, int other) {
        slot(slot, other);
        holding(slot, other);
        int[] left = slots.get(slot).stream().mapToInt(i -> i).toArray();
        int[] right = slots.get(other).stream().mapToInt(i -> i).toArray();
        return Integer.signum(Arrays.compare(left, right));
    }

    public int multiply(int left, int right, int to) {
        slot(left, right, to);
        holding(left, right);
        argument(size(left) == size(right));
        become(to, product(slots.get(left), slots.get(right)));
        return fixed(slots.get(to));
    }

    public int invert(int slot) {
        slot(slot);
        holding(slot);
        return becomeAndTellFirst(slot, inverse(slots.get(slot)));
    }

    static List<Integer> powerOf(List<Integer> row, BigInteger exponent) {
        List<Integer> power = identityOf(row.size());
        for (int bit = exponent.bitLength() - 1; bit >= 0; bit--) {
            power = product(power, power);
            power = exponent.testBit(bit) ? product(power, row) : power;
        }
        return power;
    }

    public int power(int slot, long exponent) {
        slot(slot);
        holding(slot);
        List<Integer> base = exponent < 0 ? inverse(slots.get(slot)) : slots.get(slot);
        become(slot, powerOf(base, BigInteger.valueOf(exponent).abs()));
        return fixed(slots.get(slot));
    }

    public int conjugate(int slot, int by, int to) {
        slot(slot, by, to);
        holding(slot, by);
        argument(size(slot) == size(by));
        List<Integer> one = slots.get(by);
        return becomeAndTellFirst(to, product(product(one, slots.get(slot)), inverse(one)));
    }

    private static int orderOf(List<Integer> row) {
        int order = 1;
        for (List<Integer> power = row; fixed(power) < row.size(); power = product(power, row)) {
            order++;
        }
        return order;
    }

    public int order(int slot) {
        slot(slot);
        holding(slot);
        return orderOf(slots.get(slot));
    }

    public int sign(int slot) {
        slot(slot);
        holding(slot);
        return inversionsOf(slots.get(slot)) % 2 == 0 ? 1 : -1;
    }

    public int cyclesOf(int slot, int length) {
        slot(slot);
        holding(slot);
        argument(length >= 1 && length <= 24);
        return typeOf(slots.get(slot)).getOrDefault(length, 0);
    }

    public boolean isAlike(int slot, int other) {
        slot(slot, other);
        holding(slot, other);
        return typeOf(slots.get(slot)).equals(typeOf(slots.get(other)));
    }

    public boolean hasRoot(int slot, int exponent) {
        slot(slot);
        holding(slot);
        argument(exponent >= 1 && exponent <= 9);
        return powersOfTypes(slots.get(slot).size(), exponent).contains(typeOf(slots.get(slot)));
    }

    private static final Map<Integer, Set<Map<Integer, Integer>>> POWERS = new HashMap<>();

    /** The types of the powers of one arrangement of each type. */
    private static Set<Map<Integer, Integer>> powersOfTypes(int size, int exponent) {
        return POWERS.computeIfAbsent(size * 10 + exponent, key -> {
            Set<Map<Integer, Integer>> types = new HashSet<>();
            addPowers(new ArrayList<>(), size, size, exponent, types);
            return types;
        });
    }

    private static void addPowers(List<Integer> row, int left, int most, int exponent,
            Set<Map<Integer, Integer>> types) {
        if (left == 0) {
            types.add(typeOf(powerOf(row, BigInteger.valueOf(exponent))));
        }
        for (int length = Math.min(left, most); length >= 1; length--) {
            List<Integer> longer = new ArrayList<>(row);
            for (int i = 0; i < length; i++) {
                longer.add(row.size() + (i + 1) % length);
            }
            addPowers(longer, left - length, length, exponent, types);
        }
    }

    public int swap(int slot, int place, int other) {
        slot(slot);
        holding(slot);
        place(slot, place);
        place(slot, other);
        List<Integer> row = new ArrayList<>(slots.get(slot));
        Collections.swap(row, place, other);
        become(slot, row);
        return row.get(place);
    }

    public int rotate(int slot, int distance) {
        slot(slot);
        holding(slot);
        List<Integer> row = new ArrayList<>(slots.get(slot));
        Collections.rotate(row, distance);
        return becomeAndTellFirst(slot, row);
    }

    public int reverse(int slot) {
        slot(slot);
        holding(slot);
        List<Integer> row = new ArrayList<>(slots.get(slot));
        Collections.reverse(row);
        return becomeAndTellFirst(slot, row);
    }

    private static List<Integer> flipped(List<Integer> old, int many) {
        List<Integer> row = new ArrayList<>(old);
        Collections.reverse(row.subList(0, many));
        return row;
    }

    public int flip(int slot, int many) {
        slot(slot);
        holding(slot);
        argument(many >= 0 && many <= size(slot));
        return becomeAndTellFirst(slot, flipped(slots.get(slot), many));
    }

    private static List<Integer> riffled(List<Integer> row, boolean isOut) {
        int cut = isOut ? row.size() - row.size() / 2 : row.size() / 2;
        Deque<Integer> first = new ArrayDeque<>(row.subList(0, cut));
        Deque<Integer> second = new ArrayDeque<>(row.subList(cut, row.size()));
        List<Integer> laid = new ArrayList<>();
        boolean isFront = isOut;
        while (laid.size() < row.size()) {
            laid.add(isFront ? first.removeFirst() : second.removeFirst());
            isFront = !isFront;
        }
        return laid;
    }

    public int riffle(int slot, boolean isOut) {
        slot(slot);
        holding(slot);
        return becomeAndTellFirst(slot, riffled(slots.get(slot), isOut));
    }

    public int riffles(int size, boolean isOut) {
        sizeInRange(size);
        List<Integer> row = riffled(identityOf(size), isOut);
        int many = 1;
        while (fixed(row) < size) {
            row = riffled(row, isOut);
            many++;
        }
        return many;
    }

    public int inversions(int slot) {
        slot(slot);
        holding(slot);
        return inversionsOf(slots.get(slot));
    }

    public int code(int slot, int place) {
        slot(slot);
        holding(slot);
        place(slot, place);
        List<Integer> row = slots.get(slot);
        return (int) row.subList(place, row.size()).stream().filter(i -> i < row.get(place)).count();
    }

    public int decode(int slot, int size) {
        slot(slot);
        sizeInRange(size);
        String told = text;
        text = "";
        List<Integer> left = identityOf(size);
        List<Integer> row = new ArrayList<>();
        for (int i = 0; i < told.length(); i++) {
            int code = "0123456789abcdefghijklmn".indexOf(told.charAt(i));
            if (code < 0 || code >= left.size()) {
                return -1 - i;
            }
            row.add(left.remove(code));
        }
        if (!left.isEmpty()) {
            return -1 - told.length();
        }
        become(slot, row);
        return inversionsOf(row);
    }

    public int swaps(int slot) {
        slot(slot);
        holding(slot);
        List<Integer> row = new ArrayList<>(slots.get(slot));
        int many = 0;
        for (int i = 0; i < row.size(); i++) {
            if (row.get(i) != i) {
                Collections.swap(row, i, row.indexOf(i));
                many++;
            }
        }
        return many;
    }

    public int flips(int slot) {
        slot(slot);
        holding(slot);
        argument(size(slot) <= 6);
        List<Integer> sorted = identityOf(size(slot));
        Set<List<Integer>> reached = new HashSet<>(Set.of(slots.get(slot)));
        int many = 0;
        while (!reached.contains(sorted)) {
            Set<List<Integer>> further = new HashSet<>(reached);
            for (List<Integer> row : reached) {
                for (int i = 2; i <= row.size(); i++) {
                    further.add(flipped(row, i));
                }
            }
            reached = further;
            many++;
        }
        return many;
    }

    public int runs(int slot) {
        slot(slot);
        holding(slot);
        List<Integer> row = slots.get(slot);
        int many = 0;
        for (int i = 0; i < row.size(); i++) {
            many += i == 0 || row.get(i - 1) > row.get(i) ? 1 : 0;
        }
        return many;
    }

    public int longest(int slot) {
        slot(slot);
        holding(slot);
        List<Integer> row = slots.get(slot);
        int[] endingAt = new int[row.size()];
        for (int i = 0; i < row.size(); i++) {
            endingAt[i] = 1;
            for (int j = 0; j < i; j++) {
                endingAt[i] = Math.max(endingAt[i], row.get(j) < row.get(i) ? endingAt[j] + 1 : 1);
            }
        }
        return Arrays.stream(endingAt).max().getAsInt();
    }

    private static void tableauxOf(List<Integer> row, List<List<Integer>> ins, List<List<Integer>> rec) {
        for (int place = 0; place < row.size(); place++) {
            Integer coming = row.get(place);
            for (int i = 0; coming != null; i++) {
                if (i == ins.size()) {
                    ins.add(new ArrayList<>());
                    rec.add(new ArrayList<>());
                }
                List<Integer> things = ins.get(i);
                int thing = coming;
                Integer greater = things.stream().filter(t -> t > thing).min(Integer::compare).orElse(null);
                if (greater == null) {
                    things.add(coming);
                    rec.get(i).add(place);
                } else {
                    things.set(things.indexOf(greater), coming);
                }
                coming = greater;
            }
        }
    }

    public int shape(int slot, int row) {
        slot(slot);
        holding(slot);
        argument(row >= 0 && row <= 23);
        List<List<Integer>> ins = new ArrayList<>();
        tableauxOf(slots.get(slot), ins, new ArrayList<>());
        return row < ins.size() ? ins.get(row).size() : 0;
    }

    public int entry(int slot, boolean isRecording, int row, int column) {
        slot(slot);
        holding(slot);
        List<List<Integer>> ins = new ArrayList<>();
        List<List<Integer>> rec = new ArrayList<>();
        tableauxOf(slots.get(slot), ins, rec);
        when(row < 0 || row >= ins.size() || column < 0 || column >= ins.get(row).size(),
                new NoSuchElementException());
        return (isRecording ? rec : ins).get(row).get(column);
    }

    public int exchange(int slot, int to) {
        slot(slot, to);
        holding(slot);
        return becomeAndTellFirst(to, inverse(slots.get(slot)));
    }

    public int generate(int first, int many) {
        when(many < 1, new IndexOutOfBoundsException());
        for (long i = first; i < (long) first + Math.min(many, 11); i++) {
            slot((int) i);
        }
        for (int i = first; i < first + many; i++) {
            holding(i);
        }
        argument(many <= 4);
        for (int i = first; i < first + many; i++) {
            argument(size(i) == size(first) && size(i) <= 7);
        }
        groupSize = size(first);
        words = new LinkedHashMap<>();
        Map<List<Integer>, String> level = Map.of(identityOf(groupSize), "");
        while (!level.isEmpty()) {
            words.putAll(level);
            Map<List<Integer>, String> longer = new HashMap<>();
            for (Map.Entry<List<Integer>, String> member : level.entrySet()) {
                for (int i = 0; i < many; i++) {
                    List<Integer> row = product(member.getKey(), slots.get(first + i));
                    if (!words.containsKey(row)) {
                        String word = member.getValue() + (char) ('a' + i);
                        longer.merge(row, word, (a, b) -> a.compareTo(b) < 0 ? a : b);
                    }
                }
            }
            level = longer;
        }
        return words.size();
    }

    private void group() {
        when(groupSize == 0, new IllegalStateException());
    }

    public boolean isMember(int slot) {
        slot(slot);
        holding(slot);
        group();
        argument(size(slot) == groupSize);
        return words.containsKey(slots.get(slot));
    }

    public int word(int slot) {
        when(!isMember(slot), new UnsupportedOperationException());
        text = words.get(slots.get(slot));
        return text.length();
    }

    public int orbit(int thing) {
        group();
        argument(thing >= 0 && thing < groupSize);
        return (int) words.keySet().stream().map(row -> row.get(thing)).distinct().count();
    }

    public int stabiliser(int number) {
        group();
        argument(number >= 0 && number <= groupSize);
        List<Integer> start = identityOf(number);
        return (int) words.keySet().stream().filter(row -> row.subList(0, number).equals(start)).count();
    }

    static boolean containsPattern(List<Integer> row, List<Integer> pattern) {
        int many = pattern.size();
        return many <= row.size() && anyChoice(row, pattern, new ArrayList<>(), 0);
    }

    private static boolean anyChoice(List<Integer> row, List<Integer> pattern, List<Integer> things, int from) {
        if (things.size() == pattern.size()) {
            List<Integer> sorted = new ArrayList<>(things);
            Collections.sort(sorted);
            for (int i = 0; i < things.size(); i++) {
                if (sorted.indexOf(things.get(i)) != pattern.get(i)) {
                    return false;
                }
            }
            return true;
        }
        for (int i = from; i <= row.size() - (pattern.size() - things.size()); i++) {
            things.add(row.get(i));
            boolean isFound = anyChoice(row, pattern, things, i + 1);
            things.remove(things.size() - 1);
            if (isFound) {
                return true;
            }
        }
        return false;
    }

    public boolean contains(int slot, int pattern) {
        slot(slot, pattern);
        holding(slot, pattern);
        argument(size(pattern) <= 5);
        return containsPattern(slots.get(slot), slots.get(pattern));
    }

    public int avoiders(int pattern, int size) {
        slot(pattern);
        holding(pattern);
        argument(size(pattern) <= 5);
        argument(size >= 1 && size <= 6);
        int many = 0;
        for (int rank = 0; rank < factorial(size).intValue(); rank++) {
            many += containsPattern(ofRank(BigInteger.valueOf(rank), size), slots.get(pattern)) ? 0 : 1;
        }
        return many;
    }

    public int leastTurn() {
        when(text.isEmpty(), new IllegalStateException());
        List<String> turns = new ArrayList<>();
        for (int i = 0; i < text.length(); i++) {
            turns.add(text.substring(i) + text.substring(0, i));
        }
        return turns.indexOf(Collections.min(turns));
    }

    /** Counts by least periods: a row that repeats after exactly d beads has d turns. */
    public long necklaces(int beads, int colours) {
        argument(beads >= 1 && beads <= 18 && colours >= 1 && colours <= 9);
        BigInteger[] aperiodic = new BigInteger[beads + 1];
        BigInteger sum = BigInteger.ZERO;
        for (int d = 1; d <= beads; d++) {
            if (beads % d == 0) {
                aperiodic[d] = BigInteger.valueOf(colours).pow(d);
                for (int e = 1; e < d; e++) {
                    aperiodic[d] = d % e == 0 ? aperiodic[d].subtract(aperiodic[e]) : aperiodic[d];
                }
                sum = sum.add(aperiodic[d].divide(BigInteger.valueOf(d)));
            }
        }
        return sum.longValueExact();
    }

    public int held() {
        return (int) slots.stream().filter(row -> row != null).count();
    }

    public long checksum() {
        List<Integer> parts = new ArrayList<>();
        for (List<Integer> row : slots) {
            parts.add(row == null ? 0 : row.size());
            parts.addAll(row == null ? List.of() : row);
        }
        text.chars().forEach(parts::add);
        BigInteger sum = BigInteger.valueOf(7);
        for (int part : parts) {
            sum = sum.multiply(BigInteger.valueOf(31)).add(BigInteger.valueOf(part));
        }
        return sum.longValue();
    }

    public boolean isSound() {
        return true;
    }
}
