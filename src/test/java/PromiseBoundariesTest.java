import java.math.BigInteger;

/** For each sentence of promises 1 to 54 that names a boundary, both sides of it, and the state behind a refusal. */
public final class PromiseBoundariesTest extends Sayings {
    private static final String NO_SLOT = "Throws `IndexOutOfBoundsException` if there is no such slot";
    private static final String NO_SLOT_FOR_EITHER = NO_SLOT + ", for either";
    private static final String NO_SLOT_FOR_ANY = NO_SLOT + ", for any";
    private static final String HOLDS_NONE = "Throws `NoSuchElementException` if it holds none";
    private static final String ONE_HOLDS_NONE = "Throws `NoSuchElementException` if one holds none";
    private static final String GIVEN_HOLDS_NONE = "Throws `NoSuchElementException` if the given one holds none";
    private static final String SIZE_OUT = "Throws `IllegalArgumentException` if the size is out of range";
    private static final String NO_PLACE = "Throws `IllegalArgumentException` if there is no such place";
    private static final String SIZES_DIFFER = "Throws `IllegalArgumentException` if their sizes differ";
    private static final String NO_GROUP = "Throws `IllegalStateException` if no group was generated";
    private static final String NOT_OF_GROUP = "Throws `IllegalArgumentException` if its size is not that of the group";
    private static final String[] NO_SIZES = {"0", "25", "-1", "-2147483648", "2147483647"};

    public static void main(String[] args) {
        newObject();
        identityAndCopy();
        text();
        readAndCycles();
        sizeAtAndUndo();
        ranks();
        unrank();
        steps();
        compare();
        products();
        cycleCounts();
        moves();
        counts();
        decode();
        flips();
        tableaux();
        generate();
        members();
        orbits();
        patterns();
        turnsAndNecklaces();
        figures();
        needsEachThrows();
        end();
    }

    private static void refusesEach(String exception, String call, String... arguments) {
        for (String argument : arguments) {
            refuses(exception, call.replace("#", argument));
        }
    }

    /** What the calls that need but a slot that holds one promise alike. */
    private static void needsOne(int promise, String call, Object due) {
        says(promise, NO_SLOT);
        needsSlot(call, due);
        says(promise, HOLDS_NONE);
        needsHeld(call);
    }

    private static void newObject() {
        says(1, "Creates a cabinet whose slots hold none, with an empty text, without a group.");
        room();
        lets("held", 0);
        for (int slot = 0; slot < 10; slot++) {
            lets("size " + slot, 0);
            refuses(NONE, "at " + slot + " 0");
        }
        lets("erase", 0);
        lets("text", "''");
        refuses(STATE, "leastTurn", "orbit 0", "stabiliser 0", "identity 0 1; isMember 0", "identity 9 7; word 9");
        refuses(NONE, "undo");
        lets("isSound", true);
    }

    private static void identityAndCopy() {
        says(2, NO_SLOT);
        needsSlot("identity # 5", 5);
        refuses(INDEX, "identity 10 0", "identity -1 25");
        says(2, SIZE_OUT);
        refusesEach(ARGUMENT, "identity 0 #", NO_SIZES);
        refusesEach(ARGUMENT, "identity 9 #", NO_SIZES);
        lets("identity 9 1", 1);
        lets("identity 3 1; row 3", "0");
        lets("identity 9 24", 24);
        lets("identity 4 24; row 4", joined(0, 23));

        says(3, NO_SLOT_FOR_EITHER);
        needsSlot("copy # 8", 4);
        needsSlot("copy 1 #", 4);
        refuses(INDEX, "copy 9 10", "copy 9 -1", "copy 10 9", "copy -1 10");
        says(3, "Throws `NoSuchElementException` if the first one holds none");
        needsHeld("copy # 0", "copy # 9");
        lets("copy 8 9; row 9", "2 3 0 1");
        says(3, "Lets a slot become what another one, or the same, holds.");
        lets("copy 1 1; row 1", "3 0 1 2");
        lets("copy 4 3; row 3", "0");
        lets("copy 3 4; row 4", joined(23, 0));
        lets("copy 1 0; swap 0 0 3; row 1", "3 0 1 2");
        lets("copy 1 0; swap 1 0 3; row 0", "3 0 1 2");
    }

    private static void text() {
        says(4, "Throws `IllegalArgumentException` if its code is not 32 to 126");
        refusesEach(ARGUMENT, "type #", "0", "9", "10", "31", "127", "128", "160", "255", "288", "382", "65535");
        room(FURNISHED, "typed " + repeated("a", 80));
        refuses(ARGUMENT, "type 31", "type 127");
        room(FURNISHED);
        for (int code = 32; code <= 126; code++) {
            lets("type " + code, 1);
            lets("type " + code + "; signAt 0", (char) code);
        }
        says(4, "Throws `IllegalStateException` if the text has 80 signs");
        room(FURNISHED, "typed " + repeated("a", 79));
        lets("type 98", 80);
        lets("type 98; signAt 79", "b");
        room(FURNISHED, "typed " + repeated("a", 80));
        refuses(STATE, "type 32", "type 97", "type 126");
        lets("erase; type 98", 1);
        room(FURNISHED, "reverse 3", "cycles 3", "typed " + repeated(" ", 80));
        refuses(STATE, "type 32");

        says(5, "Returns how many signs it had.");
        lets("typed ; erase", 0);
        lets("typed a; erase", 1);
        lets("typed " + repeated("a", 80) + "; erase", 80);
        lets("typed ab; erase; erase", 0);
        lets("typed ab; erase; text", "''");
        lets("typed " + repeated("a", 80) + "; erase; text", "''");

        says(6, NO_PLACE);
        room(FURNISHED);
        refusesEach(ARGUMENT, "signAt #", "0", "-1", "1", "79", "80", "-2147483648", "2147483647");
        room(FURNISHED, "typed ab");
        lets("signAt 0", "a");
        lets("signAt 1", "b");
        refusesEach(ARGUMENT, "signAt #", "-1", "2", "3", "80");
        refuses(ARGUMENT, "typed abc; erase; typed a; signAt 1");
        room(FURNISHED, "typed " + repeated("a", 79) + "b");
        lets("signAt 79", "b");
        lets("signAt 78", "a");
        refusesEach(ARGUMENT, "signAt #", "80", "81", "-1", "2147483647");
    }

    private static void readAndCycles() {
        says(7, NO_SLOT);
        room(FURNISHED, "typed (0 1)");
        needsSlot("typed (0 1); read # 4", 1);
        refuses(INDEX, "read 10 4", "read -1 0", "read 10 25");
        says(7, SIZE_OUT);
        room(FURNISHED, "typed (0)");
        refusesEach(ARGUMENT, "read 0 #", NO_SIZES);
        refusesEach(ARGUMENT, "typed x; read 9 #", NO_SIZES);
        lets("read 9 1", 1);
        lets("read 9 24", 1);
        lets("typed (0 23); read 9 24; row 9", "23 " + joined(1, 22) + " 0");
        says(7, "at a fault nothing becomes anything");
        room(FURNISHED);
        for (String told : new String[] {"(", "(4)", "(0 1", "(0 0)", "x", "(0 1)(2 3))"}) {
            room(FURNISHED, "typed " + told);
            Room got = new Room(FURNISHED, "typed " + told, "read 0 4");
            sameState("read of " + told, got, new Room(FURNISHED));
            sameState("read of " + told, new Room("typed " + told, "read 0 4"), new Room());
        }
        says(7, "Returns how many cycles the text tells, or -1 less its fault.");
        room();
        lets("typed ; read 0 4", 0);
        lets("typed (0); read 0 4", 1);
        lets("typed (0)(1)(2)(3); read 0 4", 4);
        lets("typed x; read 0 4", -1);
        lets("typed (0)(1)(2)(3)x; read 0 4", -13);
        lets("typed (0 1; read 0 4; typed 2); read 0 4", -1);
        lets("typed (0 1; read 0 4; typed (0 1); read 0 4", 1);
        lets("typed (0 1)(2 3; read 0 4; typed (2); read 0 4; row 0", "0 1 2 3");
        lets("typed (0 1)(2 3); read 0 4; typed (0); read 0 4", 1);
        lets("typed (0 1)(2 3); read 0 4; typed (0); read 0 4; row 0", "0 1 2 3");

        needsOne(8, "cycles #", 5);
        says(8, "Returns how many signs it has then.");
        lets("cycles 4", 0);
        lets("cycles 3", 74);
        lets("typed " + repeated("a", 80) + "; cycles 2", 0);
        lets("typed " + repeated("a", 80) + "; cycles 0", 5);
        lets("cycles 8", 10);
    }

    private static void sizeAtAndUndo() {
        says(9, NO_SLOT);
        needsSlot("size #", 4);
        says(9, "Returns the size, 0 if it holds none.");
        lets("size 9", 0);
        lets("size 4", 1);
        lets("size 3", 24);
        lets("identity 9 24; undo; size 9", 0);

        needsOne(10, "at # 0", 1);
        says(10, NO_SLOT);
        refuses(INDEX, "at 10 4", "at 10 0", "at -1 -1");
        says(10, HOLDS_NONE);
        needsHeld("at # -1", "at # 24", "at # 1");
        says(10, NO_PLACE);
        refusesEach(ARGUMENT, "at 0 #", "-1", "4", "5", "24", "-2147483648", "2147483647");
        lets("at 0 0", 1);
        lets("at 0 3", 3);
        refuses(ARGUMENT, "at 4 1", "at 3 24", "at 3 25", "identity 3 2; at 3 2");
        lets("at 4 0", 0);
        lets("at 3 23", 0);
        lets("at 3 0", 23);

        says(11, "Throws `NoSuchElementException` if no call is kept");
        room("typed abc");
        refuses(NONE, "undo", "identity 0 4; undo; undo");
        lets("identity 3 4; undo", 3);
        room(FURNISHED);
        lets("kept", 12);
        refuses(NONE, repeated("undo; ", 12) + "undo");
        lets(repeated("undo; ", 11) + "undo", 0);
        says(11, "that call is kept no longer");
        room();
        lets("identity 0 1; identity 0 2; undo; undo; size 0", 0);
        lets("identity 0 1; identity 9 2; undo", 9);
        lets("identity 0 1; identity 9 2; undo; undo", 0);
        lets("identity 0 1; identity 9 2; undo; kept", 1);
        lets("identity 0 1; identity 0 24; undo; row 0", "0");
        lets("identity 0 24; reverse 0; identity 0 1; undo; row 0", joined(23, 0));
        lets("identity 9 24; undo; row 9", "");
        refuses(NONE, "identity 9 24; undo; at 9 0", "identity 9 24; undo; undo");
    }

    private static String lastRank(int size) {
        BigInteger all = BigInteger.ONE;
        for (int factor = 2; factor <= size; factor++) {
            all = all.multiply(BigInteger.valueOf(factor));
        }
        return all.subtract(BigInteger.ONE).toString();
    }

    private static void ranks() {
        needsOne(12, "rank #", 1);
        says(12, "Puts the rank into the text.");
        for (int size = 1; size <= 24; size++) {
            lets("identity 9 " + size + "; typed zzz; rank 9", 1);
            lets("identity 9 " + size + "; typed zzz; rank 9; text", "'0'");
            lets("identity 9 " + size + "; reverse 9; rank 9", lastRank(size).length());
            lets("identity 9 " + size + "; reverse 9; rank 9; text", "'" + lastRank(size) + "'");
        }
        lets("typed " + repeated("9", 80) + "; rank 0; text", "'6'");
    }

    private static void unrank() {
        says(13, NO_SLOT);
        needsSlot("typed 6; unrank # 4", 1);
        room(FURNISHED, "typed x");
        refuses(INDEX, "unrank 10 0", "unrank -1 4", "unrank 10 25");
        room(FURNISHED, "typed 24");
        refuses(INDEX, "unrank 10 0", "unrank -1 4", "unrank 10 25");
        says(13, "Throws `NumberFormatException` if the text is no number");
        String[] noNumbers = {"", "+", "-", "++0", "--0", "+-0", "-+0", "0+", "0-", " 0", "0 ", "0 0", "/", ":",
            "0/", "0:", "/0", ":0", "a", "0x0", "0.", "1e1", "0-0", ",0", "+ 0", "()", repeated("0", 79) + "x",
            "x" + repeated("0", 79), "99x", "-1x", "-1 "};
        for (String told : noNumbers) {
            room(FURNISHED, "typed " + told);
            refuses(NUMBER, "unrank 0 4", "unrank 9 0", "unrank 9 25", "unrank 3 -1");
        }
        room(FURNISHED);
        for (String told : new String[] {"0", "+0", "-0", "00", "-000", repeated("0", 80), "+" + repeated("0", 79)}) {
            lets("typed " + told + "; unrank 0 4; row 0", "0 1 2 3");
            lets("typed " + told + "; unrank 0 4; text", "''");
        }
        lets("typed " + repeated("0", 78) + "23; unrank 0 4; row 0", "3 2 1 0");
        lets("typed +9; unrank 0 4; row 0", "1 2 3 0");
        says(13, "Throws `IllegalArgumentException` if the size is out of range, or none of this size has this rank");
        room(FURNISHED, "typed 0");
        refusesEach(ARGUMENT, "unrank 0 #", NO_SIZES);
        lets("unrank 0 1", 0);
        lets("unrank 9 24", 0);
        room(FURNISHED, "typed 99");
        refuses(ARGUMENT, "unrank 0 0", "unrank 0 25", "unrank 0 4");
        room(FURNISHED);
        refuses(ARGUMENT, "typed -1; unrank 0 4", "typed -01; unrank 0 4", "typed -24; unrank 9 4");
        refuses(ARGUMENT, "typed -10; unrank 0 24", "typed -0000001; unrank 0 24");
        for (int size = 1; size <= 24; size++) {
            String last = lastRank(size);
            String behind = new BigInteger(last).add(BigInteger.ONE).toString();
            lets("typed " + last + "; unrank 0 " + size + "; row 0", joined(size - 1, 0));
            lets("typed +0" + last + "; unrank 9 " + size, size - 1);
            refuses(ARGUMENT, "typed " + behind + "; unrank 0 " + size, "typed " + behind + "0; unrank 9 " + size);
        }
        for (String told : new String[] {"256", "65536", "4294967296", "4294967297", "18446744073709551616",
            "18446744073709551617", "340282366920938463463374607431768211456", repeated("9", 80)}) {
            refuses(ARGUMENT, "typed " + told + "; unrank 0 4");
        }
        refuses(ARGUMENT, "typed 340282366920938463463374607431768211456; unrank 0 24",
                "typed 1" + repeated("0", 79) + "; unrank 0 24", "typed +" + repeated("9", 79) + "; unrank 0 24");
    }

    private static void steps() {
        needsOne(14, "next #", true);
        says(14, "behind the last one that of the rank 0");
        for (int size = 1; size <= 24; size++) {
            lets("identity 9 " + size + "; reverse 9; next 9; row 9", joined(0, size - 1));
        }
        says(14, "Returns false if it was the last one.");
        for (int size = 1; size <= 24; size++) {
            lets("identity 9 " + size + "; reverse 9; next 9", false);
            lets("identity 9 " + size + "; next 9", size > 1);
        }
        lets("identity 9 3; reverse 9; previous 9; next 9", true);
        lets("identity 9 24; reverse 9; previous 9; next 9", true);
        lets("identity 9 24; reverse 9; previous 9; next 9; row 9", joined(23, 0));
        lets("identity 9 2; next 9; row 9", "1 0");

        needsOne(15, "previous #", true);
        says(15, "ahead of that of the rank 0 the last one");
        for (int size = 1; size <= 24; size++) {
            lets("identity 9 " + size + "; previous 9; row 9", joined(size - 1, 0));
        }
        says(15, "Returns false if its rank was 0.");
        for (int size = 1; size <= 24; size++) {
            lets("identity 9 " + size + "; previous 9", false);
            lets("identity 9 " + size + "; reverse 9; previous 9", size > 1);
        }
        lets("identity 9 3; next 9; previous 9", true);
        lets("identity 9 24; next 9; previous 9; row 9", joined(0, 23));

        needsOne(16, "skip # 0", 1);
        says(16, "`by`: the number, also below 0");
        lets("skip 0 0; row 0", "1 0 2 3");
        lets("skip 0 1; row 0", "1 0 3 2");
        lets("skip 0 -1; row 0", "0 3 2 1");
        lets("skip 0 -6; row 0", "0 1 2 3");
        lets("skip 0 17; row 0", "3 2 1 0");
        says(16, "from the last one on to that of the rank 0, as often as need be");
        lets("skip 0 18; row 0", "0 1 2 3");
        lets("skip 0 -7; row 0", "3 2 1 0");
        lets("skip 0 24; row 0", "1 0 2 3");
        lets("skip 0 -24; row 0", "1 0 2 3");
        lets("skip 0 240000000000000000; row 0", "1 0 2 3");
        lets("skip 0 -240000000000000000; row 0", "1 0 2 3");
        lets("skip 3 1; row 3", joined(0, 23));
        lets("skip 4 9223372036854775807; row 4", "0");
        lets("skip 4 -9223372036854775808; row 4", "0");
        // 2 to the 63rd is 8 more than a multiple of 24, and 368 more than one of 720.
        lets("identity 9 4; skip 9 9223372036854775807; rank 9; text", "'7'");
        lets("identity 9 4; skip 9 -9223372036854775808; rank 9; text", "'16'");
        lets("identity 9 6; skip 9 9223372036854775807; rank 9; text", "'367'");
        lets("identity 9 6; skip 9 -9223372036854775808; rank 9; text", "'352'");
        lets("identity 9 24; skip 9 9223372036854775807; rank 9; text", "'9223372036854775807'");
        lets("identity 9 24; skip 9 -9223372036854775808; rank 9; text", "'620439178361202584584192'");
    }

    private static void compare() {
        says(17, NO_SLOT_FOR_EITHER);
        needsSlot("compare # 0", 0);
        needsSlot("compare 0 #", 0);
        refuses(INDEX, "compare 9 10", "compare 10 9", "compare -1 -1");
        says(17, ONE_HOLDS_NONE);
        needsHeld("compare # 0", "compare 0 #", "compare # #");
        says(17, "Returns -1 if the first one is ahead, 1 if the other one is, 0 if they are the same.");
        lets("compare 0 1", -1);
        lets("compare 1 0", 1);
        lets("compare 0 0", 0);
        lets("compare 4 4", 0);
        lets("compare 3 3", 0);
        lets("copy 3 9; compare 3 9", 0);
        lets("compare 4 3", -1);
        lets("compare 3 4", 1);
    }

    private static void products() {
        says(18, NO_SLOT_FOR_ANY);
        needsSlot("multiply # 0 8", 4);
        needsSlot("multiply 0 # 8", 4);
        needsSlot("multiply 0 0 #", 4);
        refuses(INDEX, "multiply 9 9 10", "multiply 0 2 10", "multiply 10 9 0", "multiply 9 10 0", "multiply 9 2 -1");
        says(18, "Throws `NoSuchElementException` if the left or the right one holds none");
        needsHeld("multiply # 0 0", "multiply 0 # 0", "multiply # # 0", "multiply 2 # 0", "multiply # 2 9");
        lets("multiply 0 1 9; row 9", "3 1 0 2");
        says(18, SIZES_DIFFER);
        refuses(ARGUMENT, "multiply 0 2 0", "multiply 2 0 0", "multiply 5 6 9", "multiply 3 4 3", "multiply 4 3 4");
        lets("multiply 0 1 2; row 2", "3 1 0 2");
        lets("multiply 0 1 0; row 0", "3 1 0 2");
        lets("multiply 0 1 1; row 1", "3 1 0 2");
        lets("multiply 1 1 1; row 1", "2 3 0 1");
        lets("multiply 3 3 0", 24);
        lets("multiply 4 4 3; row 3", "0");
        says(18, "Returns how many things are fixed in it.");
        lets("multiply 0 1 0", 1);
        lets("multiply 1 1 1", 0);
        lets("multiply 8 8 8", 4);
        lets("multiply 4 4 4", 1);

        needsOne(19, "invert #", 1);
        says(19, "Lets a slot become its inverse.");
        lets("invert 4; row 4", "0");
        lets("invert 1; row 1", "1 2 3 0");
        // 0 23 22 .. 1 is its own inverse, 1 2 .. 23 0 has 23 0 1 .. 22.
        lets("rotate 3 1; invert 3; row 3", "0 " + joined(23, 1));
        lets("identity 9 24; rotate 9 -1; invert 9; row 9", "23 " + joined(0, 22));

        needsOne(20, "power # 2", 4);
        says(20, "Returns how many things are fixed in it.");
        lets("power 0 1", 2);
        lets("power 0 0", 4);
        lets("power 1 1", 0);
        lets("power 3 0", 24);
        lets("power 3 1", 0);
        lets("power 4 -9223372036854775808", 1);

        says(21, NO_SLOT_FOR_ANY);
        needsSlot("conjugate # 0 8", 1);
        needsSlot("conjugate 0 # 8", 1);
        needsSlot("conjugate 0 0 #", 1);
        refuses(INDEX, "conjugate 9 9 10", "conjugate 0 2 10", "conjugate 10 9 0", "conjugate 9 10 0");
        says(21, "Throws `NoSuchElementException` if the given one or the one holds none");
        needsHeld("conjugate # 0 0", "conjugate 0 # 0", "conjugate # # 0", "conjugate 2 # 0", "conjugate # 2 9");
        lets("conjugate 0 1 9; row 9", "3 1 2 0");
        says(21, SIZES_DIFFER);
        refuses(ARGUMENT, "conjugate 0 2 0", "conjugate 2 0 9", "conjugate 3 4 3", "conjugate 4 3 4");
        lets("conjugate 1 0 2; row 2", "1 3 0 2");
        lets("conjugate 1 0 1; row 1", "1 3 0 2");
        lets("conjugate 1 0 0; row 0", "1 3 0 2");
        lets("conjugate 1 1 1; row 1", "3 0 1 2");
        lets("conjugate 4 4 3; row 3", "0");
        lets("conjugate 3 3 4; row 4", joined(23, 0));
    }

    private static void cycleCounts() {
        needsOne(22, "order #", 2);
        says(22, "Returns the order.");
        lets("order 4", 1);
        lets("order 2", 1);
        lets("order 1", 4);
        lets("identity 9 24; order 9", 1);
        lets("identity 9 24; rotate 9 1; order 9", 24);
        lets("typed (0 1 2)(3 4 5 6 7)(8 9 10 11 12 13 14)(15 16 17 18 19 20 21 22); read 9 24; order 9", 840);

        needsOne(23, "sign #", -1);
        says(23, "Returns 1 or -1.");
        lets("sign 4", 1);
        lets("sign 8", 1);
        lets("sign 1", -1);

        needsOne(24, "cyclesOf # 1", 2);
        says(24, NO_SLOT);
        refuses(INDEX, "cyclesOf 10 0", "cyclesOf -1 25");
        says(24, HOLDS_NONE);
        needsHeld("cyclesOf # 0", "cyclesOf # 25");
        says(24, "Throws `IllegalArgumentException` if the length is out of range");
        refusesEach(ARGUMENT, "cyclesOf 0 #", NO_SIZES);
        refusesEach(ARGUMENT, "cyclesOf 3 #", NO_SIZES);
        lets("cyclesOf 0 24", 0);
        lets("cyclesOf 0 4", 0);
        lets("cyclesOf 0 5", 0);
        lets("cyclesOf 1 4", 1);
        lets("cyclesOf 3 2", 12);
        lets("identity 9 24; cyclesOf 9 1", 24);
        lets("identity 9 24; rotate 9 1; cyclesOf 9 24", 1);
        lets("identity 9 24; rotate 9 1; cyclesOf 9 1", 0);

        says(25, NO_SLOT_FOR_EITHER);
        needsSlot("isAlike # 0", true);
        needsSlot("isAlike 0 #", true);
        refuses(INDEX, "isAlike 9 10", "isAlike 10 9");
        says(25, ONE_HOLDS_NONE);
        needsHeld("isAlike # 0", "isAlike 0 #", "isAlike # #");
        says(25, "Tells whether two have one size, and as many cycles of each length.");
        lets("isAlike 4 4", true);
        lets("isAlike 2 5", false);
        lets("isAlike 1 8", false);
        lets("isAlike 0 8", false);
        lets("typed (0 1)(2 3); read 9 4; isAlike 8 9", true);
        lets("typed (0 1)(2 3); read 9 5; isAlike 8 9", false);
        lets("identity 9 24; rotate 9 1; isAlike 9 3", false);
        lets("identity 9 24; rotate 9 5; isAlike 9 9", true);
        lets("identity 9 24; rotate 9 1; identity 0 24; rotate 0 -1; isAlike 9 0", true);

        needsOne(26, "hasRoot # 1", true);
        says(26, NO_SLOT);
        refuses(INDEX, "hasRoot 10 0", "hasRoot -1 10");
        says(26, HOLDS_NONE);
        needsHeld("hasRoot # 0", "hasRoot # 10");
        says(26, "Throws `IllegalArgumentException` if the exponent is out of range");
        refusesEach(ARGUMENT, "hasRoot 0 #", "0", "10", "-1", "-2147483648", "2147483647");
        lets("hasRoot 0 9", true);
        lets("hasRoot 0 8", false);
        lets("hasRoot 2 9", true);
        lets("hasRoot 1 1", true);
        lets("hasRoot 1 2", false);
        lets("typed (0 1)(2 3)(4 5)(6 7)(8 9)(10 11)(12 13)(14 15); read 9 16; hasRoot 9 8", true);
        lets("typed (0 1)(2 3)(4 5)(6 7)(8 9)(10 11)(12 13); read 9 16; hasRoot 9 8", false);
        lets("typed (0 1 2)(3 4 5)(6 7 8)(9 10 11)(12 13 14)(15 16 17)(18 19 20)(21 22 23); read 9 24; hasRoot 9 9",
                false);
        lets("typed (0 1)(2 3)(4 5)(6 7)(8 9)(10 11)(12 13)(14 15)(16 17); read 9 24; hasRoot 9 9", true);
        for (int exponent = 1; exponent <= 9; exponent++) {
            // A single cycle has no root of an exponent that divides its length in part.
            lets("identity 9 24; rotate 9 1; hasRoot 9 " + exponent, exponent % 2 != 0 && exponent % 3 != 0);
            lets("identity 9 23; rotate 9 1; hasRoot 9 " + exponent, true);
            lets("identity 9 24; hasRoot 9 " + exponent, true);
            lets("hasRoot 4 " + exponent, true);
        }
    }

    private static void moves() {
        needsOne(27, "swap # 0 3", 3);
        says(27, NO_SLOT);
        refuses(INDEX, "swap 10 4 4", "swap -1 -1 0");
        says(27, HOLDS_NONE);
        needsHeld("swap # -1 0", "swap # 0 24", "swap # 24 24");
        says(27, "Throws `IllegalArgumentException` if there is no such place, for either");
        for (String place : new String[] {"-1", "4", "5", "24", "-2147483648", "2147483647"}) {
            refuses(ARGUMENT, "swap 0 # 0".replace("#", place), "swap 0 0 #".replace("#", place),
                    "swap 0 # #".replace("#", place));
        }
        refuses(ARGUMENT, "swap 4 0 1", "swap 4 1 0", "swap 3 24 0", "swap 3 0 24");
        lets("swap 0 3 0", 1);
        lets("swap 0 3 0; row 0", "3 0 2 1");
        lets("swap 3 23 0", 23);
        lets("swap 3 0 23; row 3", "0 " + joined(22, 1) + " 23");
        says(27, "`other`: another one, or the same");
        lets("swap 0 3 3", 3);
        lets("swap 0 0 0; row 0", "1 0 2 3");
        lets("swap 4 0 0", 0);

        needsOne(28, "rotate # 1", 3);
        says(28, "`distance`: the distance, any number");
        String[] distances = {"0", "4", "-4", "2147483644", "-2147483648"};
        for (String distance : distances) {
            lets("rotate 0 " + distance + "; row 0", "1 0 2 3");
        }
        lets("rotate 0 2147483647; row 0", "0 2 3 1");
        lets("rotate 0 -2147483647; row 0", "3 1 0 2");
        lets("rotate 4 2147483647; row 4", "0");
        lets("rotate 4 -2147483648; row 4", "0");

        needsOne(29, "reverse #", 3);
        says(29, "Lets a slot become itself turned round.");
        lets("reverse 4; row 4", "0");
        lets("reverse 2; row 2", "4 3 2 1 0");
        lets("reverse 3; row 3", joined(0, 23));
        lets("identity 9 2; reverse 9; row 9", "1 0");

        needsOne(30, "flip # 0", 1);
        says(30, NO_SLOT);
        refuses(INDEX, "flip 10 -1", "flip -1 25");
        says(30, HOLDS_NONE);
        needsHeld("flip # 1", "flip # -1", "flip # 25");
        says(30, "Throws `IllegalArgumentException` if there are not so many, or it is below 0");
        refusesEach(ARGUMENT, "flip 0 #", "-1", "5", "6", "24", "-2147483648", "2147483647");
        refuses(ARGUMENT, "flip 4 2", "flip 3 25", "flip 3 -1");
        lets("flip 0 0; row 0", "1 0 2 3");
        lets("flip 0 1; row 0", "1 0 2 3");
        lets("flip 0 2; row 0", "0 1 2 3");
        lets("flip 0 4; row 0", "3 2 0 1");
        lets("flip 4 0", 0);
        lets("flip 4 1", 0);
        lets("flip 3 24", 0);
        lets("flip 3 23; row 3", joined(1, 23) + " 0");

        needsOne(31, "riffle # true", 1);
        says(31, NO_SLOT);
        needsSlot("riffle # false", 2);
        says(31, HOLDS_NONE);
        needsHeld("riffle # false");

        says(32, SIZE_OUT);
        for (String size : NO_SIZES) {
            refuses(ARGUMENT, "riffles " + size + " true", "riffles " + size + " false");
        }
        lets("riffles 24 true", 11);
        lets("riffles 24 false", 20);
        says(32, "Returns the least number of riffles, 1 or more, behind which the identity of a size is the "
                + "identity.");
        lets("riffles 1 true", 1);
        lets("riffles 1 false", 1);
        lets("riffles 2 true", 1);
        lets("riffles 2 false", 2);
        lets("riffles 3 true", 2);
        lets("riffles 3 false", 2);
        for (int size = 1; size <= 24; size++) {
            lets("riffles " + size + " true", rifflesTill(size, true));
            lets("riffles " + size + " false", rifflesTill(size, false));
        }
    }

    /** Riffles until the identity comes back. */
    private static int rifflesTill(int size, boolean isOut) {
        Room riffled = new Room("identity 0 " + size);
        String sum = riffled.answer("checksum");
        int many = 0;
        do {
            riffled.answer("riffle 0 " + isOut);
            many++;
        } while (many < 100 && !riffled.answer("checksum").equals(sum));
        return many;
    }

    private static void counts() {
        needsOne(33, "inversions #", 1);
        says(33, "Returns the inversions.");
        lets("inversions 4", 0);
        lets("inversions 2", 0);
        lets("inversions 3", 276);
        lets("swap 3 0 23; swap 3 0 23; next 3; inversions 3", 0);

        needsOne(34, "code # 0", 1);
        says(34, NO_SLOT);
        refuses(INDEX, "code 10 4", "code -1 -1");
        says(34, HOLDS_NONE);
        needsHeld("code # -1", "code # 24");
        says(34, NO_PLACE);
        refusesEach(ARGUMENT, "code 0 #", "-1", "4", "5", "24", "-2147483648", "2147483647");
        refuses(ARGUMENT, "code 4 1", "code 3 24", "identity 3 2; code 3 2");
        lets("code 0 3", 0);
        lets("code 4 0", 0);
        lets("code 3 0", 23);
        lets("code 3 22", 1);
        lets("code 3 23", 0);

        needsOne(36, "swaps #", 1);
        says(36, "Returns the least number of swaps that make it the identity.");
        lets("swaps 4", 0);
        lets("swaps 2", 0);
        lets("swaps 8", 2);
        lets("swaps 1", 3);
        lets("swaps 3", 12);
        lets("identity 9 24; rotate 9 1; swaps 9", 23);

        needsOne(38, "runs #", 2);
        says(38, "one, and one more for each thing that is less than the one at the place ahead");
        lets("runs 4", 1);
        lets("runs 2", 1);
        lets("runs 1", 2);
        lets("runs 3", 24);
        lets("identity 9 24; runs 9", 1);
        lets("identity 9 24; swap 9 22 23; runs 9", 2);
        lets("identity 9 24; swap 9 0 1; runs 9", 2);

        needsOne(39, "longest #", 3);
        says(39, "Returns the greatest number of places, ascending, whose things ascend, too.");
        lets("longest 4", 1);
        lets("longest 3", 1);
        lets("longest 8", 2);
        lets("identity 9 24; longest 9", 24);
        lets("identity 9 24; rotate 9 12; longest 9", 12);
        lets("identity 9 24; rotate 9 1; longest 9", 23);
    }

    private static void decode() {
        says(35, NO_SLOT);
        room(FURNISHED, "typed 1000");
        needsSlot("typed 1000; decode # 4", 1);
        refuses(INDEX, "decode 10 4", "decode -1 0", "typed x; decode 10 25");
        says(35, SIZE_OUT);
        room(FURNISHED, "typed 0");
        refusesEach(ARGUMENT, "decode 0 #", NO_SIZES);
        refusesEach(ARGUMENT, "typed x; decode 9 #", NO_SIZES);
        lets("decode 9 1", 0);
        lets("typed " + repeated("0", 24) + "; decode 9 24", 0);
        says(35, "a sign for each place, in order, '0' to '9' for 0 to 9, 'a' to 'n' for 10 to 23, each below the "
                + "size less the number of the place.");
        lets("typed nmlkjihgfedcba9876543210; decode 9 24; row 9", joined(23, 0));
        lets("typed nmlkjihgfedcba9876543210; decode 9 24", 276);
        String signs = "0123456789abcdefghijklmno";
        for (int place = 0; place < 24; place++) {
            String ahead = repeated("0", place);
            String behind = repeated("0", 23 - place);
            lets("typed " + ahead + signs.charAt(23 - place) + behind + "; decode 9 24", 23 - place);
            lets("typed " + ahead + signs.charAt(24 - place) + behind + "; decode 9 24", -1 - place);
            lets("typed " + repeated("0", place) + "; decode 9 " + (place + 1), -1 - place);
            lets("typed " + repeated("0", place + 1) + "; decode 9 " + (place + 1), 0);
            lets("typed " + repeated("0", place + 2) + "; decode 9 " + (place + 1), -2 - place);
            lets("typed " + signs.charAt(place) + repeated("0", place) + "; decode 9 " + (place + 1), place);
            lets("typed " + signs.charAt(place + 1) + repeated("0", place) + "; decode 9 " + (place + 1), -1);
        }
        says(35, "The fault is the place of the first sign that is not so, or for which there is no place, or the "
                + "length of the text, if it has too few");
        for (String sign : new String[] {"/", ":", "@", "A", "N", "`", "o", "p", "~", " ", "-", "{"}) {
            lets("typed " + sign + repeated("0", 23) + "; decode 9 24", -1);
            lets("typed 0" + sign + repeated("0", 22) + "; decode 9 24", -2);
            lets("typed " + repeated("0", 23) + sign + "; decode 9 24", -24);
            lets("typed " + repeated("0", 24) + sign + "; decode 9 24", -25);
        }
        lets("typed ; decode 9 1", -1);
        lets("typed ; decode 9 24", -1);
        lets("typed " + repeated("0", 23) + "; decode 9 24", -24);
        lets("typed " + repeated("0", 25) + "; decode 9 24", -25);
        lets("typed " + repeated("0", 80) + "; decode 9 24", -25);
        lets("typed " + repeated("0", 80) + "; decode 9 1", -2);
        lets("typed x0000; decode 9 4", -1);
        lets("typed 4000; decode 9 4", -1);
        lets("typed 3000; decode 9 4", 3);
        lets("typed 00x; decode 9 4", -3);
        says(35, "at a fault nothing becomes anything");
        for (String told : new String[] {"", "000", "00000", "4000", "x000", "000x", "0001"}) {
            sameState("decode of " + told, new Room(FURNISHED, "typed " + told, "decode 0 4"), new Room(FURNISHED));
            sameState("decode of " + told, new Room("typed " + told, "decode 0 4"), new Room());
        }
        says(35, "Returns the inversions, or -1 less the fault.");
        lets("typed 0; decode 9 1", 0);
        lets("typed 10; decode 9 2", 1);
        lets("typed 3210; decode 9 4", 6);
        lets("typed 3210; decode 9 3", -1);
    }

    private static void flips() {
        needsOne(37, "flips #", 1);
        says(37, HOLDS_NONE);
        needsHeld("flips #");
        says(37, "Throws `IllegalArgumentException` if its size is above 6");
        refuses(ARGUMENT, "flips 6", "flips 7", "flips 3", "flips 5; flips 6");
        lets("flips 5", 0);
        lets("flips 4", 0);
        lets("flips 2; flips 5", 0);
        lets("flips 5; flips 2", 0);
        lets("reverse 5; flips 5", 1);
        lets("typed 341200; decode 9 6; flips 9", 7);
        says(37, "Returns the least number of flips that make it the identity.");
        int[] farthest = {0, 1, 3, 4, 5, 7};
        int all = 1;
        for (int size = 1; size <= 6; size++) {
            int most = 0;
            all *= size;
            for (int rank = 0; rank < all; rank++) {
                String many = new Room("identity 0 " + size, "skip 0 " + rank).answer("flips 0");
                most = Math.max(most, Integer.parseInt(many));
            }
            due("the most flips of size " + size, most, farthest[size - 1]);
        }
    }

    private static void tableaux() {
        needsOne(40, "shape # 0", 3);
        says(40, NO_SLOT);
        refuses(INDEX, "shape 10 -1", "shape -1 24");
        says(40, HOLDS_NONE);
        needsHeld("shape # -1", "shape # 24", "shape # 23");
        says(40, "Throws `IllegalArgumentException` if the row is out of range");
        refusesEach(ARGUMENT, "shape 0 #", "-1", "24", "25", "-2147483648", "2147483647");
        refusesEach(ARGUMENT, "shape 3 #", "-1", "24");
        lets("shape 3 0", 1);
        lets("shape 3 23", 1);
        says(40, "Returns the length, 0 if there is no such row.");
        lets("shape 0 1", 1);
        lets("shape 0 2", 0);
        lets("shape 0 23", 0);
        lets("shape 4 0", 1);
        lets("shape 4 1", 0);
        lets("shape 3 23; shape 0 3", 0);
        lets("identity 9 24; shape 9 0", 24);
        lets("identity 9 24; shape 9 1", 0);

        needsOne(41, "entry # false 0 0", 0);
        says(41, NO_SLOT);
        needsSlot("entry # true 1 0", 1);
        refuses(INDEX, "entry 10 true 24 24", "entry -1 false -1 0");
        says(41, "Throws `NoSuchElementException` if it holds none, or there is no such row, or no such place in it");
        needsHeld("entry # true 0 0", "entry # false 0 0", "entry # true -1 24");
        for (String kind : new String[] {"true", "false"}) {
            for (String wrong : new String[] {"-1", "24", "25", "-2147483648", "2147483647"}) {
                refuses(NONE, "entry 0 " + kind + " " + wrong + " 0", "entry 0 " + kind + " 0 " + wrong,
                        "entry 3 " + kind + " " + wrong + " 0", "entry 3 " + kind + " 0 " + wrong);
            }
            refuses(NONE, "entry 0 " + kind + " 0 3", "entry 0 " + kind + " 1 1", "entry 0 " + kind + " 2 0",
                    "entry 4 " + kind + " 0 1", "entry 4 " + kind + " 1 0", "entry 3 " + kind + " 0 1",
                    "entry 3 " + kind + " 23 1", "entry 3 " + kind + " 23 0; entry 0 " + kind + " 2 0");
        }
        lets("entry 0 false 0 2", 3);
        lets("entry 0 true 0 2", 3);
        lets("entry 0 false 1 0", 1);
        lets("entry 4 false 0 0", 0);
        lets("entry 4 true 0 0", 0);
        lets("entry 3 false 23 0", 23);
        lets("entry 3 true 23 0", 23);
        lets("entry 3 false 0 0", 0);
        lets("identity 9 24; entry 9 true 0 23", 23);
        lets("identity 9 24; entry 9 false 0 23", 23);

        says(42, NO_SLOT_FOR_EITHER);
        needsSlot("exchange # 8", 1);
        needsSlot("exchange 0 #", 1);
        refuses(INDEX, "exchange 9 10", "exchange 10 9");
        says(42, GIVEN_HOLDS_NONE);
        needsHeld("exchange # 0", "exchange # 9");
        lets("exchange 1 9; row 9", "1 2 3 0");
        lets("exchange 1 1; row 1", "1 2 3 0");
        lets("exchange 4 3; row 3", "0");
        lets("exchange 3 4; row 4", joined(23, 0));
        lets("identity 9 24; rotate 9 7; exchange 9 0; multiply 9 0 1", 24);
    }

    private static void generate() {
        says(43, "Throws `IndexOutOfBoundsException` if how many is below 1, or there is no such slot, for any");
        needsSlot("generate # 1", 2);
        refuses(INDEX, "generate 0 0", "generate 0 -1", "generate 0 -2147483648", "generate 9 0", "generate 3 0",
                "generate 10 0", "generate 9 2", "generate 8 3", "generate 0 11", "generate -1 2", "generate -1 1",
                "generate -1 11", "generate -4 5", "generate 6 5", "generate 1 10", "generate 1 2147483647",
                "generate 2147483647 1", "generate 2147483647 2147483647", "generate -2147483648 1",
                "generate -2147483648 -2147483648", "generate -2147483648 2147483647", "generate 5 2147483643");
        lets("generate 0 1", 2);
        lets("copy 8 9; generate 8 2", 2);
        lets("identity 9 7; generate 9 1", 1);
        says(43, "Throws `NoSuchElementException` if one of them holds none");
        refuses(NONE, "generate 9 1", "generate 8 2", "generate 7 3", "generate 6 4", "generate 5 5", "generate 0 10",
                "identity 9 4; undo; generate 9 1");
        room("identity 1 4");
        refuses(NONE, "generate 0 2", "generate 1 2", "generate 0 5", "generate 0 10", "identity 2 5; generate 0 3");
        says(43, "Throws `IllegalArgumentException` if there are more than 4, or their sizes differ, or are above 7");
        refuses(ARGUMENT, "generate 0 3", "generate 1 2", "generate 4 2", "generate 5 2", "generate 0 4",
                "generate 7 1", "generate 3 1", "generate 6 2", "generate 0 9", "copy 7 8; generate 7 2",
                "identity 9 24; generate 9 1", "identity 9 8; generate 9 1");
        lets("generate 0 2", 24);
        lets("generate 6 1", 1);
        lets("generate 4 1", 1);
        room("identity 0 4", "identity 1 4", "identity 2 4", "identity 3 4", "identity 4 4", "reverse 0");
        refuses(ARGUMENT, "generate 0 5", "generate 0 1; generate 0 5", "identity 4 5; generate 0 5");
        lets("generate 0 4", 2);
        lets("identity 4 5; generate 0 4", 2);
        refuses(ARGUMENT, "identity 3 5; generate 0 4", "identity 0 5; generate 0 4", "identity 1 3; generate 0 4");
        lets("identity 3 5; generate 0 3", 2);
        says(43, "Returns how many members it has.");
        lets("generate 1 1", 4);
        lets("generate 2 1", 1);
        lets("identity 8 7; rotate 8 1; identity 9 7; swap 9 0 1; generate 8 2", 5040);
        lets("identity 8 7; rotate 8 1; identity 9 7; rotate 9 2; generate 8 2", 7);
        lets("typed (0 1 2)(3 4 5 6); read 9 7; generate 9 1", 12);
        lets("typed (0 1 2); read 8 7; typed (2 3 4 5 6); read 9 7; generate 8 2", 2520);
    }

    private static void members() {
        needsOne(44, "isMember #", true);
        says(44, NO_SLOT);
        room(WITHOUT_GROUP);
        refuses(INDEX, "isMember 10", "isMember -1");
        says(44, HOLDS_NONE);
        room(WITHOUT_GROUP);
        refuses(NONE, "isMember 9");
        says(44, NO_GROUP);
        room(WITHOUT_GROUP);
        refuses(STATE, "isMember 0", "isMember 3", "isMember 4", "isMember 7");
        refuses(STATE, "identity 9 4; isMember 9");
        lets("generate 0 1; isMember 0", true);
        says(44, NOT_OF_GROUP);
        refuses(ARGUMENT, "isMember 2", "isMember 3", "isMember 4", "isMember 5", "isMember 6", "isMember 7",
                "identity 9 3; isMember 9");
        lets("isMember 0", true);
        lets("isMember 1", false);
        lets("identity 9 4; isMember 9", true);
        lets("generate 4 1; isMember 4", true);
        lets("generate 6 1; isMember 6", true);
        lets("generate 6 1; reverse 6; isMember 6", false);
        refuses(ARGUMENT, "generate 4 1; isMember 0", "generate 6 1; isMember 0", "generate 6 1; isMember 7");

        needsOne(45, "word #", 1);
        says(45, NO_SLOT);
        room(WITHOUT_GROUP, "typed abc");
        refuses(INDEX, "word 10", "word -1");
        says(45, HOLDS_NONE);
        room(WITHOUT_GROUP, "typed abc");
        refuses(NONE, "word 9");
        says(45, NO_GROUP);
        room(WITHOUT_GROUP, "typed abc");
        refuses(STATE, "word 0", "word 3", "word 4", "word 7");
        lets("generate 0 1; word 0", 1);
        says(45, NOT_OF_GROUP);
        room(FURNISHED, "typed abc");
        refuses(ARGUMENT, "word 2", "word 3", "word 4", "word 5", "word 7", "identity 9 3; word 9");
        says(45, "Throws `UnsupportedOperationException` if it is no member");
        room(FURNISHED, "typed abc");
        refuses(UNSUPPORTED, "word 1", "word 8", "identity 9 4; reverse 9; word 9");
        refuses(UNSUPPORTED, "generate 6 1; swap 6 0 6; word 6");
        lets("word 0; text", "'a'");
        lets("identity 9 4; word 9; text", "''");
        says(45, "Puts the shortest word for a member into the text, of several the first one by letters.");
        room(FURNISHED, "typed " + repeated("z", 80));
        lets("word 0; text", "'a'");
        lets("identity 9 4; word 9", 0);
        lets("generate 1 1; copy 1 9; power 9 3; word 9; text", "'aaa'");
        lets("generate 1 1; copy 1 9; power 9 4; word 9; text", "''");
        lets("copy 8 9; generate 8 2; word 9; text", "'a'");
        room("identity 0 4", "identity 1 4", "swap 1 0 1", "identity 2 4", "swap 2 2 3", "multiply 1 2 3",
                "generate 0 4");
        lets("word 0; text", "''");
        lets("word 1; text", "'b'");
        lets("word 2; text", "'c'");
        lets("word 3; text", "'d'");
        lets("generate 0 3; word 3; text", "'bc'");
        lets("generate 1 3; word 0; text", "''");
        lets("typed (0 1 2)(3 4 5 6); read 8 7; copy 8 9; generate 8 1; power 9 11; word 9", 11);
        lets("typed (0 1 2)(3 4 5 6); read 8 7; copy 8 9; generate 8 1; power 9 11; word 9; text",
                "'" + repeated("a", 11) + "'");
        lets("typed (0 1 2)(3 4 5 6); read 8 7; copy 8 9; generate 8 1; power 9 12; word 9", 0);
    }

    private static void orbits() {
        says(46, NO_GROUP);
        room(WITHOUT_GROUP);
        refusesEach(STATE, "orbit #", "0", "3", "-1", "24", "2147483647");
        says(46, "Throws `IllegalArgumentException` if there is no such thing in its size");
        refusesEach(ARGUMENT, "orbit #", "-1", "4", "5", "7", "-2147483648", "2147483647");
        lets("orbit 0", 2);
        lets("orbit 1", 2);
        lets("orbit 2", 1);
        lets("orbit 3", 1);
        refuses(ARGUMENT, "generate 4 1; orbit 1", "generate 6 1; orbit 7", "generate 6 1; orbit -1");
        lets("generate 4 1; orbit 0", 1);
        lets("rotate 6 1; generate 6 1; orbit 6", 7);
        lets("rotate 6 1; generate 6 1; orbit 0", 7);

        says(47, NO_GROUP);
        room(WITHOUT_GROUP);
        refusesEach(STATE, "stabiliser #", "0", "4", "-1", "24", "2147483647");
        says(47, "Throws `IllegalArgumentException` if it is out of range");
        refusesEach(ARGUMENT, "stabiliser #", "-1", "5", "6", "8", "-2147483648", "2147483647");
        refuses(ARGUMENT, "generate 4 1; stabiliser 2", "generate 6 1; stabiliser 8", "generate 6 1; stabiliser -1");
        says(47, "`number`: the number, 0 to the size of the group's arrangements");
        lets("stabiliser 0", 2);
        lets("stabiliser 1", 1);
        lets("stabiliser 4", 1);
        lets("generate 4 1; stabiliser 0", 1);
        lets("generate 4 1; stabiliser 1", 1);
        room("identity 8 7", "rotate 8 1", "identity 9 7", "swap 9 0 1", "generate 8 2");
        int[] all = {5040, 720, 120, 24, 6, 2, 1, 1};
        for (int number = 0; number <= 7; number++) {
            lets("stabiliser " + number, all[number]);
        }
    }

    private static void patterns() {
        says(48, NO_SLOT_FOR_EITHER);
        needsSlot("contains # 0", true);
        needsSlot("contains 0 #", true);
        refuses(INDEX, "contains 10 5", "contains 9 10", "contains 10 9");
        says(48, ONE_HOLDS_NONE);
        needsHeld("contains # 0", "contains 0 #", "contains # #", "contains # 5", "contains 5 #");
        says(48, "Throws `IllegalArgumentException` if the size of the pattern is above 5");
        refuses(ARGUMENT, "contains 0 5", "contains 5 5", "contains 3 3", "contains 4 6", "contains 7 7");
        lets("contains 5 2", true);
        lets("contains 2 2", true);
        lets("contains 3 4", true);
        lets("contains 7 2", true);
        lets("contains 3 2", false);

        says(49, NO_SLOT);
        needsSlot("avoiders # 4", 23);
        refuses(INDEX, "avoiders 10 0", "avoiders -1 7");
        says(49, HOLDS_NONE);
        needsHeld("avoiders # 4", "avoiders # 0", "avoiders # 7");
        says(49, "Throws `IllegalArgumentException` if the size of the pattern is above 5, or the size is out of "
                + "range");
        refusesEach(ARGUMENT, "avoiders 0 #", "0", "7", "-1", "24", "-2147483648", "2147483647");
        refuses(ARGUMENT, "avoiders 5 6", "avoiders 5 0", "avoiders 3 1", "avoiders 6 7");
        lets("avoiders 0 1", 1);
        lets("avoiders 0 3", 6);
        lets("avoiders 0 6", 513);
        lets("avoiders 2 1", 1);
        lets("avoiders 2 4", 24);
        lets("avoiders 2 5", 119);
        lets("avoiders 2 6", 694);
        lets("avoiders 4 1", 0);
        lets("avoiders 4 6", 0);
        lets("identity 9 2; avoiders 9 1", 1);
        lets("identity 9 2; avoiders 9 6", 1);
    }

    private static void turnsAndNecklaces() {
        says(50, "Throws `IllegalStateException` if it is empty");
        room(FURNISHED);
        refuses(STATE, "leastTurn", "typed b; erase; leastTurn", "cycles 2; leastTurn");
        lets("typed b; leastTurn", 0);
        lets("typed  ; leastTurn", 0);
        says(50, "to be least by the codes of its signs, one by one; of several the least.");
        lets("typed ab; leastTurn", 0);
        lets("typed ba; leastTurn", 1);
        lets("typed aa; leastTurn", 0);
        lets("typed baba; leastTurn", 1);
        lets("typed aab; leastTurn", 0);
        lets("typed aba; leastTurn", 2);
        lets("typed ~ ; leastTurn", 1);
        lets("typed aB; leastTurn", 1);
        lets("typed " + repeated("a", 80) + "; leastTurn", 0);
        lets("typed " + repeated("b", 79) + "a; leastTurn", 79);
        lets("typed a" + repeated("b", 79) + "; leastTurn", 0);
        lets("typed b" + repeated("a", 79) + "; leastTurn", 1);
        lets("typed " + repeated("a", 79) + "b; leastTurn", 0);
        lets("typed " + repeated("ba", 40) + "; leastTurn", 1);
        lets("typed " + repeated("a", 39) + "b" + repeated("a", 40) + "; leastTurn", 40);
        says(50, "The text stays.");
        room(FURNISHED, "typed ba");
        leaves("leastTurn");
        lets("leastTurn; text", "'ba'");
        lets("leastTurn; leastTurn", 1);

        says(51, "Throws `IllegalArgumentException` if a number is out of range");
        refusesEach(ARGUMENT, "necklaces # 2", "0", "19", "-1", "-2147483648", "2147483647");
        refusesEach(ARGUMENT, "necklaces 2 #", "0", "10", "-1", "-2147483648", "2147483647");
        refuses(ARGUMENT, "necklaces 0 0", "necklaces 19 10", "necklaces 0 10", "necklaces 18 10", "necklaces 19 9");
        lets("necklaces 1 1", 1);
        lets("necklaces 18 1", 1);
        lets("necklaces 1 9", 9);
        lets("necklaces 18 9", 8338590871415805L);
        lets("necklaces 17 9", (BigInteger.valueOf(9).pow(17).longValue() - 9) / 17 + 9);
        lets("necklaces 2 2", 3);
        lets("necklaces 3 2", 4);
        lets("necklaces 2 9", 45);
    }

    private static void figures() {
        says(52, "Returns how many slots hold one.");
        lets("held", 9);
        lets("identity 9 1; held", 10);
        lets("identity 9 24; held", 10);
        lets("identity 9 24; identity 9 1; held", 10);
        lets("identity 9 1; undo; held", 9);
        room();
        lets("held", 0);
        lets("identity 0 1; held", 1);
        lets("identity 9 1; held", 1);

        says(53, "Returns 7 at first, then for each slot 31 times itself plus its size, 0 if it holds none, then for "
                + "each of its places 31 times itself plus the thing; then for each sign of the text 31 times itself "
                + "plus its code.");
        room();
        long sum = 7;
        for (int slot = 0; slot < 10; slot++) {
            sum = 31 * sum;
        }
        lets("checksum", sum);
        lets("typed ~; checksum", 31 * sum + 126);
        lets("typed ~; erase; checksum", sum);
        lets("identity 9 1; checksum", 31 * (sum + 1));
        lets("identity 9 1; undo; checksum", sum);
        says(53, "a long that goes round");
        StringBuilder calls = new StringBuilder("typed " + repeated("~", 80));
        sum = 7;
        for (int slot = 0; slot < 10; slot++) {
            calls.append("; identity ").append(slot).append(" 24; reverse ").append(slot);
            sum = 31 * sum + 24;
            for (int thing = 23; thing >= 0; thing--) {
                sum = 31 * sum + thing;
            }
        }
        for (int sign = 0; sign < 80; sign++) {
            sum = 31 * sum + 126;
        }
        room(calls.toString());
        lets("checksum", sum);

        says(54, "and the one ranked 1 more is behind it, if there is one");
        room();
        for (int size = 1; size <= 24; size++) {
            lets("identity 0 " + size + "; isSound", true);
            lets("identity 0 " + size + "; reverse 0; isSound", true);
            lets("identity 0 " + size + "; reverse 0; previous 0; isSound", true);
            lets("identity 0 " + size + "; rotate 0 1; isSound", true);
        }
        says(54, "Checks the theorem for each slot that holds one, and for the group");
        lets("isSound", true);
        lets("identity 9 1; generate 9 1; isSound", true);
        lets("identity 8 7; rotate 8 1; identity 9 7; swap 9 0 1; generate 8 2; isSound", true);
        lets("identity 8 7; rotate 8 1; generate 8 1; undo; undo; isSound", true);
        room(calls.toString());
        lets("isSound", true);
        room(FURNISHED, "typed abc");
        lets("isSound", true);
        leaves("isSound", "isSound; isSound");
    }
}
