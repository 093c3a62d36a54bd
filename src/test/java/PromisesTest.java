import java.util.ArrayList;
import java.util.List;
import java.util.NoSuchElementException;
import java.util.concurrent.Callable;

/** For each promise of the document its ordinary inputs, its edges and its exceptions, by hand. */
public final class PromisesTest {
    private static final Class<?> INDEX = IndexOutOfBoundsException.class;
    private static final Class<?> NONE = NoSuchElementException.class;
    private static final Class<?> ARGUMENT = IllegalArgumentException.class;
    private static final Class<?> STATE = IllegalStateException.class;
    private static final int[] NO_SLOTS = {-1, 10, Integer.MIN_VALUE, Integer.MAX_VALUE};

    private static int promise = 0;
    private static int wrong = 0;
    private static int checks = 0;
    private static ArrangementCabinet x;

    private static void promise(int number) {
        promise = number;
        x = new ArrangementCabinet();
    }

    private static void due(Object got, Object due) {
        checks++;
        if (!got.equals(due)) {
            wrong++;
            StackTraceElement at = new Throwable().getStackTrace()[1];
            System.out.println("promise " + promise + ", line " + at.getLineNumber() + ": " + got + ", due is " + due);
        }
    }

    private static void thrown(Class<?> due, Callable<?> call) {
        long before = x.checksum();
        Class<?> got = null;
        try {
            call.call();
        } catch (Exception e) {
            got = e.getClass();
        }
        checks++;
        if (got != due || x.checksum() != before) {
            wrong++;
            StackTraceElement at = new Throwable().getStackTrace()[1];
            System.out.println("promise " + promise + ", line " + at.getLineNumber() + ": throws " + got
                    + ", due is " + due + "; the sum was " + before + " and is " + x.checksum());
        }
    }

    private interface OnSlot {
        Object call(int slot);
    }

    /** That there is no such slot, then that slot 9 holds none, comes ahead of all else. */
    private static void needsHeld(OnSlot call) {
        needsSlot(call);
        thrown(NONE, () -> call.call(9));
    }

    private static void needsSlot(OnSlot call) {
        for (int slot : NO_SLOTS) {
            thrown(INDEX, () -> call.call(slot));
        }
    }

    private static int typed(String told) {
        x.erase();
        for (char sign : told.toCharArray()) {
            x.type(sign);
        }
        return told.length();
    }

    private static String text() {
        StringBuilder told = new StringBuilder();
        try {
            while (told.length() < 100) {
                told.append(x.signAt(told.length()));
            }
        } catch (IllegalArgumentException e) {
            return told.toString();
        }
        return told.toString();
    }

    /** Lets a slot hold a row, by its codes, without the text being left. */
    private static void put(int slot, int... row) {
        StringBuilder codes = new StringBuilder();
        for (int i = 0; i < row.length; i++) {
            int lesser = 0;
            for (int j = i + 1; j < row.length; j++) {
                lesser += row[j] < row[i] ? 1 : 0;
            }
            codes.append("0123456789abcdefghijklmn".charAt(lesser));
        }
        typed(codes.toString());
        x.decode(slot, row.length);
    }

    private static List<Integer> row(int slot) {
        List<Integer> row = new ArrayList<>();
        for (int i = 0; i < x.size(slot); i++) {
            row.add(x.at(slot, i));
        }
        return row;
    }

    /** How many calls are kept; they are used up by it. */
    private static int kept() {
        int many = 0;
        try {
            for (; many < 100; many++) {
                x.undo();
            }
        } catch (NoSuchElementException e) {
            return many;
        }
        return many;
    }

    public static void main(String[] args) {
        arrangements();
        readings();
        ranks();
        products();
        moves();
        counts();
        tableaux();
        groups();
        patterns();
        figures();
        System.out.println(checks + " checks, " + wrong + " wrong");
        System.exit(wrong == 0 ? 0 : 1);
    }

    private static void arrangements() {
        promise(1);
        due(x.held(), 0);
        due(text(), "");
        for (int slot = 0; slot < 10; slot++) {
            due(x.size(slot), 0);
        }
        thrown(STATE, () -> x.orbit(0));
        thrown(NONE, () -> x.undo());
        due(x.isSound(), true);

        promise(2);
        due(x.identity(3, 5), 5);
        due(row(3), List.of(0, 1, 2, 3, 4));
        due(x.identity(3, 24), 24);
        due(x.at(3, 23), 23);
        due(x.identity(9, 1), 1);
        due(row(9), List.of(0));
        needsSlot(slot -> x.identity(slot, 0));
        thrown(ARGUMENT, () -> x.identity(0, 0));
        thrown(ARGUMENT, () -> x.identity(0, 25));
        thrown(ARGUMENT, () -> x.identity(0, -1));
        due(kept(), 3);

        promise(3);
        put(0, 2, 0, 1);
        due(x.copy(0, 7), 3);
        due(row(7), List.of(2, 0, 1));
        due(x.copy(7, 7), 3);
        due(row(7), List.of(2, 0, 1));
        needsHeld(slot -> x.copy(slot, 1));
        needsSlot(slot -> x.copy(9, slot));
        due(kept(), 3);
        due(x.held(), 0);

        promise(4);
        due(x.type(' '), 1);
        due(x.type('~'), 2);
        thrown(ARGUMENT, () -> x.type((char) 31));
        thrown(ARGUMENT, () -> x.type((char) 127));
        thrown(ARGUMENT, () -> x.type((char) 65535));
        for (int i = 3; i <= 80; i++) {
            due(x.type('a'), i);
        }
        thrown(STATE, () -> x.type('a'));
        thrown(ARGUMENT, () -> x.type((char) 0));

        promise(5);
        due(x.erase(), 0);
        typed("abc");
        due(x.erase(), 3);
        due(text(), "");

        promise(6);
        thrown(ARGUMENT, () -> x.signAt(0));
        typed("ab");
        due(x.signAt(0), 'a');
        due(x.signAt(1), 'b');
        thrown(ARGUMENT, () -> x.signAt(2));
        thrown(ARGUMENT, () -> x.signAt(-1));
        thrown(ARGUMENT, () -> x.signAt(80));
        thrown(ARGUMENT, () -> x.signAt(Integer.MAX_VALUE));
    }

    private static void reads(String told, int size, int due) {
        typed(told);
        int got = x.read(0, size);
        if (got != due || !text().isEmpty()) {
            System.out.println("'" + told + "' of size " + size + " tells " + got);
        }
        due(got, due);
        due(text(), "");
    }

    private static void readings() {
        promise(7);
        reads("(0 3 1)(2 5)", 6, 2);
        due(row(0), List.of(3, 0, 5, 1, 4, 2));
        reads("", 3, 0);
        due(row(0), List.of(0, 1, 2));
        reads("(1)(000)", 2, 2);
        due(row(0), List.of(0, 1));
        reads("(23 0)", 24, 1);
        due(x.at(0, 0), 23);
        due(x.at(0, 23), 0);
        due(kept(), 4);
        String[] told = {")", "x", "(", "()", "( 1)", "(1 )", "(1  2)", "(1", "(1 ", "(1 2", "(1) (2)", "(1))",
            "(1(2))", "(6)", "(5 6)", "(5 5)", "(5)(5)", "(12345678901234567890)", "(12x)", "(1x 1)", "(1-2)",
            "(0 00)", "(4294967296)", "(1 2)(3", "(9", "(+1)"};
        int[] faults = {0, 0, 1, 1, 1, 3, 3, 2, 3, 4, 3, 3, 2, 1, 3, 3, 4, 1, 1, 2, 2, 3, 1, 7, 1, 1};
        put(0, 1, 0);
        for (int i = 0; i < told.length; i++) {
            reads(told[i], 6, -1 - faults[i]);
        }
        due(row(0), List.of(1, 0));
        due(kept(), 1);
        typed("(0 1)");
        needsSlot(slot -> x.read(slot, 0));
        thrown(ARGUMENT, () -> x.read(0, 0));
        thrown(ARGUMENT, () -> x.read(0, 25));
        due(text(), "(0 1)");

        promise(8);
        put(0, 3, 0, 5, 1, 4, 2);
        typed("zz");
        due(x.cycles(0), 12);
        due(text(), "(0 3 1)(2 5)");
        x.identity(1, 24);
        due(x.cycles(1), 0);
        due(text(), "");
        x.reverse(1);
        due(x.cycles(1), 74);
        due(text().substring(0, 14), "(0 23)(1 22)(2");
        due(x.read(2, 24), 12);
        due(x.compare(1, 2), 0);
        x.rotate(2, 1);
        x.cycles(2);
        needsHeld(slot -> x.cycles(slot));

        promise(9);
        due(x.size(0), 0);
        x.identity(0, 17);
        due(x.size(0), 17);
        due(x.size(1), 0);
        needsSlot(slot -> x.size(slot));

        promise(10);
        put(4, 2, 0, 1);
        due(x.at(4, 0), 2);
        due(x.at(4, 1), 0);
        due(x.at(4, 2), 1);
        needsHeld(slot -> x.at(slot, 99));
        thrown(ARGUMENT, () -> x.at(4, 3));
        thrown(ARGUMENT, () -> x.at(4, 24));
        thrown(ARGUMENT, () -> x.at(4, -1));

        promise(11);
        thrown(NONE, () -> x.undo());
        x.identity(2, 3);
        x.reverse(2);
        x.identity(5, 4);
        typed("kept");
        due(x.undo(), 5);
        due(x.size(5), 0);
        due(x.undo(), 2);
        due(row(2), List.of(0, 1, 2));
        due(x.undo(), 2);
        due(x.size(2), 0);
        due(text(), "kept");
        thrown(NONE, () -> x.undo());
        for (int size = 1; size <= 15; size++) {
            x.identity(size % 10, size);
        }
        for (int size = 15; size > 3; size--) {
            due(x.undo(), size % 10);
            due(x.size(size % 10), size > 10 ? size - 10 : 0);
        }
        thrown(NONE, () -> x.undo());
        due(x.held(), 3);
        x.swap(1, 0, 0);
        due(x.undo(), 1);
    }

    private static void unranks(String told, int size, int due) {
        typed(told);
        due(x.unrank(0, size), due);
        due(text(), "");
    }

    private static void ranks() {
        promise(12);
        put(0, 2, 0, 1);
        typed("zzz");
        due(x.rank(0), 1);
        due(text(), "4");
        x.identity(0, 24);
        due(x.rank(0), 1);
        due(text(), "0");
        x.previous(0);
        due(x.rank(0), 24);
        due(text(), "620448401733239439359999");
        x.identity(0, 11);
        x.skip(0, 10000000L);
        due(x.rank(0), 8);
        due(text(), "10000000");
        needsHeld(slot -> x.rank(slot));

        promise(13);
        unranks("4", 3, 2);
        due(row(0), List.of(2, 0, 1));
        unranks("+004", 3, 2);
        unranks("-000", 3, 0);
        due(row(0), List.of(0, 1, 2));
        unranks("620448401733239439359999", 24, 23);
        unranks("00000000000000000000000000000000000000000000000000000000000000000000000000000001", 2, 1);
        due(kept(), 5);
        for (String told : new String[] {"", "+", "-", "+-1", "1+", " 1", "1 ", "1a", "a", "1.0", "--1"}) {
            promise(13);
            typed(told);
            needsSlot(slot -> x.unrank(slot, 0));
            thrown(NumberFormatException.class, () -> x.unrank(0, 0));
            due(text(), told);
        }
        for (String told : new String[] {"6", "-1", "-6", "18446744073709551616", "4294967296",
            "99999999999999999999999999999999999999999999999999999999999999999999999999999999"}) {
            promise(13);
            typed(told);
            needsSlot(slot -> x.unrank(slot, 3));
            thrown(ARGUMENT, () -> x.unrank(0, 3));
            due(text(), told);
        }
        typed("620448401733239439360000");
        thrown(ARGUMENT, () -> x.unrank(0, 24));
        typed("0");
        thrown(ARGUMENT, () -> x.unrank(0, 25));
        thrown(ARGUMENT, () -> x.unrank(0, 0));
        due(x.held(), 0);

        promise(14);
        x.identity(0, 3);
        int[][] rows = {{0, 2, 1}, {1, 0, 2}, {1, 2, 0}, {2, 0, 1}, {2, 1, 0}, {0, 1, 2}};
        for (int[] next : rows) {
            due(x.next(0), next[0] != 0 || next[1] != 1);
            due(row(0), List.of(next[0], next[1], next[2]));
        }
        x.identity(1, 1);
        due(x.next(1), false);
        due(row(1), List.of(0));
        needsHeld(slot -> x.next(slot));
        due(kept(), 9);

        promise(15);
        x.identity(0, 3);
        due(x.previous(0), false);
        due(row(0), List.of(2, 1, 0));
        due(x.previous(0), true);
        due(row(0), List.of(2, 0, 1));
        due(x.previous(0), true);
        due(row(0), List.of(1, 2, 0));
        x.identity(1, 1);
        due(x.previous(1), false);
        needsHeld(slot -> x.previous(slot));
        due(kept(), 6);

        promise(16);
        x.identity(0, 3);
        due(x.skip(0, 2L), 1);
        due(row(0), List.of(1, 0, 2));
        due(x.skip(0, 6L), 1);
        due(row(0), List.of(1, 0, 2));
        due(x.skip(0, -3L), 2);
        due(row(0), List.of(2, 1, 0));
        due(x.skip(0, 0L), 2);
        x.identity(0, 24);
        x.skip(0, Long.MAX_VALUE);
        x.rank(0);
        due(text(), "9223372036854775807");
        x.skip(0, Long.MIN_VALUE);
        x.rank(0);
        due(text(), "620448401733239439359999");
        x.identity(0, 2);
        due(x.skip(0, Long.MIN_VALUE), 0);
        due(x.skip(0, Long.MAX_VALUE), 1);
        needsHeld(slot -> x.skip(slot, 1L));

        promise(17);
        put(0, 0, 2, 1);
        put(1, 1, 0, 2);
        put(2, 0, 1);
        put(3, 0, 1, 2);
        due(x.compare(0, 1), -1);
        due(x.compare(1, 0), 1);
        due(x.compare(0, 0), 0);
        due(x.compare(2, 3), -1);
        due(x.compare(3, 2), 1);
        due(x.compare(2, 0), -1);
        put(4, 1, 0);
        due(x.compare(4, 3), 1);
        due(x.compare(4, 1), -1);
        due(x.compare(3, 0), -1);
        needsHeld(slot -> x.compare(slot, 0));
        needsHeld(slot -> x.compare(0, slot));
        needsSlot(slot -> x.compare(9, slot));
    }

    private static void products() {
        promise(18);
        put(0, 1, 2, 0, 3);
        put(1, 0, 1, 3, 2);
        due(x.multiply(0, 1, 2), 0);
        due(row(2), List.of(1, 2, 3, 0));
        due(x.multiply(1, 0, 2), 0);
        due(row(2), List.of(1, 3, 0, 2));
        due(x.multiply(1, 1, 1), 4);
        due(x.multiply(0, 1, 0), 1);
        due(row(0), List.of(1, 2, 0, 3));
        put(3, 0, 1);
        needsHeld(slot -> x.multiply(slot, 3, 0));
        needsHeld(slot -> x.multiply(3, slot, 0));
        needsSlot(slot -> x.multiply(9, 9, slot));
        needsSlot(slot -> x.multiply(0, 3, slot));
        thrown(ARGUMENT, () -> x.multiply(0, 3, 9));
        thrown(ARGUMENT, () -> x.multiply(3, 0, 0));
        due(x.multiply(0, 1, 9), 1);
        due(kept(), 8);

        promise(19);
        put(0, 1, 2, 3, 0);
        due(x.invert(0), 3);
        due(row(0), List.of(3, 0, 1, 2));
        needsHeld(slot -> x.invert(slot));
        due(kept(), 2);

        promise(20);
        put(0, 1, 2, 0, 4, 3);
        x.copy(0, 1);
        due(x.power(1, 2L), 2);
        due(row(1), List.of(2, 0, 1, 3, 4));
        x.copy(0, 1);
        due(x.power(1, 3L), 3);
        due(row(1), List.of(0, 1, 2, 4, 3));
        x.copy(0, 1);
        due(x.power(1, -1L), 0);
        due(row(1), List.of(2, 0, 1, 4, 3));
        x.copy(0, 1);
        due(x.power(1, 0L), 5);
        x.copy(0, 1);
        due(x.power(1, Long.MIN_VALUE), 2);
        due(row(1), List.of(1, 2, 0, 3, 4));
        x.copy(0, 1);
        due(x.power(1, Long.MAX_VALUE), 0);
        due(row(1), List.of(1, 2, 0, 4, 3));
        needsHeld(slot -> x.power(slot, 2L));
        due(kept(), 12);

        promise(21);
        put(0, 3, 0, 1, 2);
        put(1, 1, 0, 2, 3);
        due(x.conjugate(0, 1, 2), 1);
        due(row(2), List.of(1, 3, 0, 2));
        put(3, 1, 2, 0, 3);
        put(4, 1, 0, 2, 3);
        due(x.conjugate(4, 3, 4), 0);
        due(row(4), List.of(0, 2, 1, 3));
        put(5, 0);
        needsHeld(slot -> x.conjugate(slot, 5, 1));
        needsHeld(slot -> x.conjugate(5, slot, 1));
        needsSlot(slot -> x.conjugate(9, 9, slot));
        thrown(ARGUMENT, () -> x.conjugate(0, 5, 9));
        due(kept(), 7);

        promise(22);
        x.identity(0, 5);
        due(x.order(0), 1);
        put(0, 1, 2, 0, 4, 3);
        due(x.order(0), 6);
        typed("(0 1 2 3 4)(5 6 7 8 9 10 11)(12 13 14 15 16 17 18 19)(20 21 22)");
        x.read(0, 24);
        due(x.order(0), 840);
        typed("(0 1 2 3)(4 5 6 7 8 9)");
        x.read(0, 10);
        due(x.order(0), 12);
        needsHeld(slot -> x.order(slot));

        promise(23);
        x.identity(0, 4);
        due(x.sign(0), 1);
        x.swap(0, 0, 3);
        due(x.sign(0), -1);
        x.swap(0, 1, 3);
        due(x.sign(0), 1);
        needsHeld(slot -> x.sign(slot));

        promise(24);
        put(0, 1, 0, 3, 2, 4);
        due(x.cyclesOf(0, 1), 1);
        due(x.cyclesOf(0, 2), 2);
        due(x.cyclesOf(0, 5), 0);
        due(x.cyclesOf(0, 24), 0);
        x.identity(1, 24);
        due(x.cyclesOf(1, 1), 24);
        x.rotate(1, 1);
        due(x.cyclesOf(1, 24), 1);
        needsHeld(slot -> x.cyclesOf(slot, 0));
        thrown(ARGUMENT, () -> x.cyclesOf(0, 0));
        thrown(ARGUMENT, () -> x.cyclesOf(0, 25));
        thrown(ARGUMENT, () -> x.cyclesOf(0, -1));

        promise(25);
        put(0, 1, 0, 2);
        put(1, 0, 2, 1);
        put(2, 1, 2, 0);
        put(3, 1, 0);
        put(4, 1, 0, 2, 3);
        due(x.isAlike(0, 1), true);
        due(x.isAlike(0, 0), true);
        due(x.isAlike(0, 2), false);
        due(x.isAlike(0, 3), false);
        due(x.isAlike(0, 4), false);
        needsHeld(slot -> x.isAlike(slot, 0));
        needsHeld(slot -> x.isAlike(0, slot));
        needsSlot(slot -> x.isAlike(9, slot));

        promise(26);
        put(0, 1, 0, 2, 3);
        due(x.hasRoot(0, 1), true);
        due(x.hasRoot(0, 2), false);
        due(x.hasRoot(0, 3), true);
        put(1, 1, 0, 3, 2);
        due(x.hasRoot(1, 2), true);
        due(x.hasRoot(1, 4), false);
        due(x.hasRoot(1, 6), true);
        typed("(0 1)(2 3)(4 5)(6 7)");
        x.read(2, 8);
        due(x.hasRoot(2, 4), true);
        due(x.hasRoot(2, 8), false);
        typed("(0 1 2)(3 4 5)(6 7 8)");
        x.read(2, 9);
        due(x.hasRoot(2, 6), true);
        due(x.hasRoot(2, 9), false);
        x.identity(3, 3);
        due(x.hasRoot(3, 9), true);
        x.identity(4, 24);
        x.rotate(4, 1);
        due(x.hasRoot(4, 2), false);
        due(x.hasRoot(4, 5), true);
        due(x.hasRoot(4, 9), false);
        needsHeld(slot -> x.hasRoot(slot, 0));
        thrown(ARGUMENT, () -> x.hasRoot(0, 0));
        thrown(ARGUMENT, () -> x.hasRoot(0, 10));
    }

    private static void moves() {
        promise(27);
        x.identity(0, 4);
        due(x.swap(0, 1, 3), 3);
        due(row(0), List.of(0, 3, 2, 1));
        due(x.swap(0, 2, 2), 2);
        due(row(0), List.of(0, 3, 2, 1));
        needsHeld(slot -> x.swap(slot, 9, 9));
        thrown(ARGUMENT, () -> x.swap(0, 4, 0));
        thrown(ARGUMENT, () -> x.swap(0, 0, 4));
        thrown(ARGUMENT, () -> x.swap(0, -1, 0));
        thrown(ARGUMENT, () -> x.swap(0, 0, -1));
        due(kept(), 3);

        promise(28);
        x.identity(0, 4);
        due(x.rotate(0, 1), 3);
        due(row(0), List.of(3, 0, 1, 2));
        due(x.rotate(0, -2), 1);
        due(row(0), List.of(1, 2, 3, 0));
        due(x.rotate(0, 5), 0);
        due(x.rotate(0, 0), 0);
        due(x.rotate(0, Integer.MAX_VALUE), 1);
        due(x.rotate(0, Integer.MIN_VALUE), 1);
        x.identity(1, 7);
        due(x.rotate(1, Integer.MIN_VALUE), 2);
        due(x.rotate(1, Integer.MAX_VALUE), 1);
        needsHeld(slot -> x.rotate(slot, 1));
        due(kept(), 10);

        promise(29);
        put(0, 1, 2, 0);
        due(x.reverse(0), 0);
        due(row(0), List.of(0, 2, 1));
        x.identity(1, 1);
        due(x.reverse(1), 0);
        needsHeld(slot -> x.reverse(slot));
        due(kept(), 4);

        promise(30);
        x.identity(0, 4);
        due(x.flip(0, 3), 2);
        due(row(0), List.of(2, 1, 0, 3));
        due(x.flip(0, 0), 2);
        due(x.flip(0, 1), 2);
        due(row(0), List.of(2, 1, 0, 3));
        due(x.flip(0, 4), 3);
        due(row(0), List.of(3, 0, 1, 2));
        needsHeld(slot -> x.flip(slot, -1));
        thrown(ARGUMENT, () -> x.flip(0, 5));
        thrown(ARGUMENT, () -> x.flip(0, -1));
        thrown(ARGUMENT, () -> x.flip(0, Integer.MIN_VALUE));
        due(kept(), 5);

        promise(31);
        x.identity(0, 5);
        due(x.riffle(0, true), 0);
        due(row(0), List.of(0, 3, 1, 4, 2));
        x.identity(0, 5);
        due(x.riffle(0, false), 2);
        due(row(0), List.of(2, 0, 3, 1, 4));
        x.identity(0, 4);
        due(x.riffle(0, true), 0);
        due(row(0), List.of(0, 2, 1, 3));
        x.identity(0, 4);
        due(x.riffle(0, false), 2);
        due(row(0), List.of(2, 0, 3, 1));
        x.identity(1, 1);
        due(x.riffle(1, true), 0);
        due(x.riffle(1, false), 0);
        needsHeld(slot -> x.riffle(slot, true));
        due(kept(), 11);

        promise(32);
        due(x.riffles(24, true), 11);
        due(x.riffles(24, false), 20);
        due(x.riffles(23, false), 11);
        due(x.riffles(1, true), 1);
        due(x.riffles(1, false), 1);
        due(x.riffles(2, true), 1);
        due(x.riffles(2, false), 2);
        due(x.riffles(3, true), 2);
        thrown(ARGUMENT, () -> x.riffles(0, true));
        thrown(ARGUMENT, () -> x.riffles(25, false));
        due(kept(), 0);
    }

    private static void decodes(String told, int size, int due) {
        typed(told);
        due(x.decode(0, size), due);
        due(text(), "");
    }

    private static void counts() {
        promise(33);
        put(0, 2, 0, 3, 1);
        due(x.inversions(0), 3);
        x.identity(0, 24);
        due(x.inversions(0), 0);
        x.reverse(0);
        due(x.inversions(0), 276);
        needsHeld(slot -> x.inversions(slot));

        promise(34);
        put(0, 2, 0, 3, 1);
        due(x.code(0, 0), 2);
        due(x.code(0, 1), 0);
        due(x.code(0, 2), 1);
        due(x.code(0, 3), 0);
        needsHeld(slot -> x.code(slot, 99));
        thrown(ARGUMENT, () -> x.code(0, 4));
        thrown(ARGUMENT, () -> x.code(0, -1));

        promise(35);
        decodes("2010", 4, 3);
        due(row(0), List.of(2, 0, 3, 1));
        decodes("nmlkjihgfedcba9876543210", 24, 276);
        due(x.at(0, 0), 23);
        decodes("0", 1, 0);
        due(kept(), 3);
        put(0, 1, 0);
        String[] told = {"", "2", "20", "201", "2014", "20100", "4010", "20 0", "2/10", "2:10", "2`10",
            "2a10", "2o10", "A010", "2011"};
        int[] faults = {0, 1, 2, 3, 3, 4, 0, 2, 1, 1, 1, 1, 1, 0, 3};
        for (int i = 0; i < told.length; i++) {
            decodes(told[i], 4, -1 - faults[i]);
        }
        decodes("n00000000000000000000000", 23, -1);
        decodes("o00000000000000000000000", 24, -1);
        due(row(0), List.of(1, 0));
        due(kept(), 1);
        typed("00");
        needsSlot(slot -> x.decode(slot, 0));
        thrown(ARGUMENT, () -> x.decode(0, 0));
        thrown(ARGUMENT, () -> x.decode(0, 25));
        due(text(), "00");

        promise(36);
        x.identity(0, 4);
        due(x.swaps(0), 0);
        put(0, 1, 2, 3, 0);
        due(x.swaps(0), 3);
        put(0, 1, 0, 3, 2);
        due(x.swaps(0), 2);
        needsHeld(slot -> x.swaps(slot));

        promise(37);
        for (int size = 1; size <= 6; size++) {
            x.identity(0, size);
            due(x.flips(0), 0);
        }
        put(0, 1, 0);
        due(x.flips(0), 1);
        put(0, 2, 1, 0);
        due(x.flips(0), 1);
        put(0, 0, 2, 1);
        due(x.flips(0), 3);
        put(0, 1, 3, 0, 2);
        due(x.flips(0), 4);
        put(0, 3, 5, 1, 4, 0, 2);
        due(x.flips(0), 7);
        needsHeld(slot -> x.flips(slot));
        x.identity(1, 7);
        thrown(ARGUMENT, () -> x.flips(1));

        promise(38);
        x.identity(0, 5);
        due(x.runs(0), 1);
        put(0, 2, 0, 3, 1);
        due(x.runs(0), 3);
        put(0, 0);
        due(x.runs(0), 1);
        needsHeld(slot -> x.runs(slot));

        promise(39);
        x.identity(0, 24);
        due(x.longest(0), 24);
        x.reverse(0);
        due(x.longest(0), 1);
        put(0, 2, 0, 3, 1, 4);
        due(x.longest(0), 3);
        put(0, 3, 4, 0, 1, 2);
        due(x.longest(0), 3);
        needsHeld(slot -> x.longest(slot));
    }

    private static void tableaux() {
        promise(40);
        put(0, 3, 0, 4, 2, 1);
        due(x.shape(0, 0), 2);
        due(x.shape(0, 1), 2);
        due(x.shape(0, 2), 1);
        due(x.shape(0, 3), 0);
        due(x.shape(0, 23), 0);
        needsHeld(slot -> x.shape(slot, -1));
        thrown(ARGUMENT, () -> x.shape(0, -1));
        thrown(ARGUMENT, () -> x.shape(0, 24));
        x.identity(1, 24);
        x.reverse(1);
        due(x.shape(1, 23), 1);

        promise(41);
        put(0, 3, 0, 4, 2, 1);
        int[][] insertion = {{0, 1}, {2, 4}, {3}};
        int[][] recording = {{0, 2}, {1, 3}, {4}};
        for (int row = 0; row < 3; row++) {
            for (int column = 0; column < insertion[row].length; column++) {
                due(x.entry(0, false, row, column), insertion[row][column]);
                due(x.entry(0, true, row, column), recording[row][column]);
            }
        }
        needsHeld(slot -> x.entry(slot, true, 0, 0));
        thrown(NONE, () -> x.entry(0, false, 3, 0));
        thrown(NONE, () -> x.entry(0, false, 24, 0));
        thrown(NONE, () -> x.entry(0, false, -1, 0));
        thrown(NONE, () -> x.entry(0, true, 2, 1));
        thrown(NONE, () -> x.entry(0, true, 0, 24));
        thrown(NONE, () -> x.entry(0, true, 0, -1));
        thrown(NONE, () -> x.entry(0, true, Integer.MAX_VALUE, Integer.MIN_VALUE));

        promise(42);
        put(0, 1, 2, 3, 0);
        due(x.exchange(0, 4), 3);
        due(row(4), List.of(3, 0, 1, 2));
        due(row(0), List.of(1, 2, 3, 0));
        put(5, 3, 0, 4, 2, 1);
        due(x.exchange(5, 5), 1);
        due(row(5), List.of(1, 4, 3, 0, 2));
        due(x.entry(5, false, 1, 1), 3);
        due(x.entry(5, true, 1, 1), 4);
        needsHeld(slot -> x.exchange(slot, 0));
        needsSlot(slot -> x.exchange(9, slot));
        due(kept(), 4);
    }

    private static void fourSlots() {
        put(0, 1, 0, 2, 3);
        put(1, 3, 0, 1, 2);
        put(2, 3, 2, 1, 0);
        put(3, 0, 1, 2, 3, 4);
    }

    private static void groups() {
        promise(43);
        fourSlots();
        due(x.generate(0, 2), 24);
        due(x.generate(0, 1), 2);
        due(x.generate(1, 1), 4);
        due(x.generate(1, 2), 8);
        needsSlot(slot -> x.generate(slot, 5));
        thrown(INDEX, () -> x.generate(0, 0));
        thrown(INDEX, () -> x.generate(0, -1));
        thrown(INDEX, () -> x.generate(0, 11));
        thrown(INDEX, () -> x.generate(9, 2));
        thrown(INDEX, () -> x.generate(1, Integer.MAX_VALUE));
        thrown(INDEX, () -> x.generate(0, Integer.MIN_VALUE));
        thrown(NONE, () -> x.generate(0, 5));
        thrown(NONE, () -> x.generate(0, 10));
        thrown(NONE, () -> x.generate(2, 3));
        thrown(NONE, () -> x.generate(9, 1));
        thrown(ARGUMENT, () -> x.generate(2, 2));
        due(x.stabiliser(0), 8);
        for (int slot = 4; slot < 9; slot++) {
            x.identity(slot, 5);
        }
        thrown(NONE, () -> x.generate(4, 6));
        thrown(ARGUMENT, () -> x.generate(4, 5));
        due(x.generate(4, 4), 1);
        x.identity(4, 8);
        thrown(ARGUMENT, () -> x.generate(4, 1));
        x.identity(4, 7);
        x.rotate(4, 1);
        x.identity(5, 7);
        x.swap(5, 0, 1);
        due(x.generate(4, 2), 5040);

        promise(44);
        fourSlots();
        needsHeld(slot -> x.isMember(slot));
        thrown(STATE, () -> x.isMember(3));
        x.generate(1, 1);
        due(x.isMember(1), true);
        due(x.isMember(0), false);
        due(x.isMember(2), false);
        x.identity(4, 4);
        due(x.isMember(4), true);
        needsHeld(slot -> x.isMember(slot));
        thrown(ARGUMENT, () -> x.isMember(3));
        x.identity(1, 9);
        x.power(0, 0L);
        due(x.isMember(0), true);
        due(x.stabiliser(0), 4);

        promise(45);
        fourSlots();
        needsHeld(slot -> x.word(slot));
        thrown(STATE, () -> x.word(3));
        x.generate(0, 2);
        x.identity(4, 4);
        typed("zz");
        due(x.word(4), 0);
        due(text(), "");
        due(x.word(0), 1);
        due(text(), "a");
        due(x.word(1), 1);
        due(text(), "b");
        x.multiply(1, 0, 5);
        due(x.word(5), 2);
        due(text(), "ba");
        x.multiply(0, 1, 5);
        due(x.word(5), 2);
        due(text(), "ab");
        x.multiply(1, 1, 5);
        due(x.word(5), 2);
        due(text(), "bb");
        thrown(ARGUMENT, () -> x.word(3));
        needsHeld(slot -> x.word(slot));
        x.generate(0, 1);
        thrown(UnsupportedOperationException.class, () -> x.word(1));
        due(text(), "bb");
        put(6, 1, 0, 2, 3);
        put(7, 0, 1, 3, 2);
        put(8, 1, 0, 2, 3);
        x.generate(6, 3);
        x.multiply(7, 6, 0);
        due(x.word(0), 2);
        due(text(), "ab");

        promise(46);
        thrown(STATE, () -> x.orbit(-1));
        put(0, 1, 2, 0, 4, 3, 5);
        x.generate(0, 1);
        due(x.orbit(0), 3);
        due(x.orbit(2), 3);
        due(x.orbit(3), 2);
        due(x.orbit(5), 1);
        thrown(ARGUMENT, () -> x.orbit(6));
        thrown(ARGUMENT, () -> x.orbit(-1));

        promise(47);
        thrown(STATE, () -> x.stabiliser(-1));
        fourSlots();
        x.generate(0, 2);
        due(x.stabiliser(0), 24);
        due(x.stabiliser(1), 6);
        due(x.stabiliser(2), 2);
        due(x.stabiliser(3), 1);
        due(x.stabiliser(4), 1);
        thrown(ARGUMENT, () -> x.stabiliser(5));
        thrown(ARGUMENT, () -> x.stabiliser(-1));
        put(0, 0, 1, 3, 2);
        x.generate(0, 1);
        due(x.stabiliser(2), 2);
        due(x.stabiliser(3), 1);
        due(x.orbit(2), 2);
    }

    private static void patterns() {
        promise(48);
        put(0, 2, 0, 3, 1);
        put(1, 1, 0, 2);
        put(2, 2, 1, 0);
        put(3, 0, 1, 2, 3, 4);
        put(4, 0, 1, 2, 3, 4, 5);
        put(5, 0);
        due(x.contains(0, 1), true);
        due(x.contains(0, 2), false);
        due(x.contains(0, 0), true);
        due(x.contains(0, 3), false);
        due(x.contains(4, 3), true);
        due(x.contains(5, 5), true);
        put(6, 1, 0, 3, 2);
        due(x.contains(0, 6), false);
        needsHeld(slot -> x.contains(slot, 4));
        needsHeld(slot -> x.contains(0, slot));
        needsSlot(slot -> x.contains(9, slot));
        thrown(ARGUMENT, () -> x.contains(0, 4));
        thrown(NONE, () -> x.contains(9, 4));
        x.identity(7, 24);
        due(x.contains(7, 3), true);
        put(8, 0, 1, 2, 4, 3);
        due(x.contains(7, 8), false);

        promise(49);
        int[] catalan = {1, 2, 5, 14, 42, 132};
        int[][] three = {{0, 1, 2}, {0, 2, 1}, {1, 0, 2}, {1, 2, 0}, {2, 0, 1}, {2, 1, 0}};
        for (int[] pattern : three) {
            put(0, pattern);
            for (int size = 1; size <= 6; size++) {
                due(x.avoiders(0, size), catalan[size - 1]);
            }
        }
        put(1, 0, 1, 2, 3);
        due(x.avoiders(1, 6), 513);
        put(1, 0, 2, 1, 3);
        due(x.avoiders(1, 6), 513);
        put(1, 0, 2, 3, 1);
        due(x.avoiders(1, 6), 512);
        put(2, 0);
        due(x.avoiders(2, 6), 0);
        put(2, 0, 1, 2, 3, 4);
        due(x.avoiders(2, 4), 24);
        due(x.avoiders(2, 5), 119);
        x.identity(3, 6);
        needsHeld(slot -> x.avoiders(slot, 0));
        thrown(ARGUMENT, () -> x.avoiders(3, 5));
        thrown(ARGUMENT, () -> x.avoiders(0, 7));
        thrown(ARGUMENT, () -> x.avoiders(0, 0));
        thrown(ARGUMENT, () -> x.avoiders(0, -1));

        promise(50);
        thrown(STATE, () -> x.leastTurn());
        typed("baab");
        due(x.leastTurn(), 1);
        due(text(), "baab");
        typed("abab");
        due(x.leastTurn(), 0);
        typed("bababa");
        due(x.leastTurn(), 1);
        typed("bbb");
        due(x.leastTurn(), 0);
        typed("ab~ aa aB");
        due(x.leastTurn(), 6);
        typed("aab ab aac");
        due(x.leastTurn(), 6);
        typed("z");
        due(x.leastTurn(), 0);

        promise(51);
        due(x.necklaces(6, 2), 14L);
        due(x.necklaces(18, 9), 8338590871415805L);
        due(x.necklaces(1, 9), 9L);
        due(x.necklaces(18, 1), 1L);
        due(x.necklaces(2, 3), 6L);
        due(x.necklaces(4, 3), 24L);
        due(x.necklaces(12, 2), 352L);
        thrown(ARGUMENT, () -> x.necklaces(0, 1));
        thrown(ARGUMENT, () -> x.necklaces(19, 1));
        thrown(ARGUMENT, () -> x.necklaces(1, 0));
        thrown(ARGUMENT, () -> x.necklaces(1, 10));
    }

    private static void figures() {
        promise(52);
        due(x.held(), 0);
        x.identity(0, 1);
        x.identity(9, 1);
        x.identity(9, 2);
        due(x.held(), 2);
        x.undo();
        x.undo();
        due(x.held(), 1);

        promise(53);
        long sum = 7;
        for (int slot = 0; slot < 10; slot++) {
            sum *= 31;
        }
        due(x.checksum(), sum);
        typed("a~");
        due(x.checksum(), (sum * 31 + 97) * 31 + 126);
        x.erase();
        x.identity(9, 2);
        due(x.checksum(), ((sum + 2) * 31 + 0) * 31 + 1);
        x.reverse(9);
        due(x.checksum(), ((sum + 2) * 31 + 1) * 31 + 0);

        promise(54);
        for (int size = 1; size <= 24; size++) {
            x.identity(size % 10, size);
            x.skip(size % 10, 123456789123456789L * size);
            due(x.isSound(), true);
            x.reverse(size % 10);
        }
        due(x.isSound(), true);
        x.identity(0, 3);
        x.previous(0);
        due(x.isSound(), true);
        fourSlots();
        for (int first = 0; first < 3; first++) {
            x.generate(first, 1);
            typed("left");
            long before = x.checksum();
            due(x.isSound(), true);
            due(x.checksum(), before);
        }
        x.generate(0, 3);
        due(x.isSound(), true);
        due(kept(), 12);
    }
}
