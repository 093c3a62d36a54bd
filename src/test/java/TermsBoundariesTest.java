import java.util.ArrayDeque;
import java.util.Deque;

/** For each sentence of the document's terms that names a boundary, both sides of it. */
public final class TermsBoundariesTest extends Sayings {
    /** Eleven calls are kept: one more is kept, too, without one being forgotten. */
    private static final String ELEVEN = "identity 0 4; swap 0 0 1; identity 1 4; rotate 1 1; identity 2 5; "
            + "identity 3 24; reverse 3; identity 4 1; identity 5 6; identity 8 4; rotate 8 2; generate 0 1";
    /** For each call that says that a slot becomes something, one by which slot 1, of 3 0 1 2, changes. */
    private static final String[] BECOMING = {"identity 1 5", "copy 2 1", "typed (2 3); read 1 4",
        "typed 5; unrank 1 4", "next 1", "previous 1", "skip 1 5", "multiply 0 1 1", "invert 1", "power 1 2",
        "conjugate 1 0 1", "swap 1 0 3", "rotate 1 1", "reverse 1", "flip 1 2", "riffle 1 true", "riffle 1 false",
        "typed 2000; decode 1 4", "exchange 1 1"};
    /** And such by which a slot becomes the same: slot 0, of 1 0 2 3, 2, the identity of 5, or 4, that of 1. */
    private static final String[] BECOMING_THE_SAME = {"identity 2 5", "copy 0 0", "typed ; read 2 5",
        "typed (0 1); read 0 4", "typed 6; unrank 0 4", "next 4", "previous 4", "skip 0 0", "skip 0 24",
        "skip 0 -24", "multiply 2 2 2", "multiply 4 4 4", "invert 0", "invert 4", "power 0 1", "power 0 -1",
        "power 2 0", "conjugate 0 0 0", "swap 0 2 2", "rotate 0 0", "rotate 0 4", "rotate 0 -4", "reverse 4",
        "flip 0 0", "flip 0 1", "flip 4 1", "riffle 4 true", "riffle 4 false", "typed 1000; decode 0 4",
        "exchange 0 0"};
    /** Four swaps of neighbours in slots 6 to 9 generate the group of all. */
    private static final String NEIGHBOURS = "typed (0 1); read 6 5; typed (1 2); read 7 5; typed (2 3); read 8 5; "
            + "typed (3 4); read 9 5; generate 6 4; identity 0 5";
    /** Calls that tell of no slot that it becomes something. */
    private static final String[] TELLING = {"size 0", "size 9", "at 0 0", "compare 0 1", "order 0", "sign 0",
        "cyclesOf 0 1", "isAlike 0 1", "hasRoot 0 2", "riffles 5 true", "inversions 0", "code 0 0", "swaps 0",
        "flips 0", "runs 0", "longest 0", "shape 0 0", "entry 0 true 0 0", "isMember 0", "orbit 0", "stabiliser 0",
        "contains 0 0", "avoiders 0 4", "necklaces 3 3", "held", "checksum", "isSound", "leastTurn", "signAt 0"};
    /** And of these those that put something into the text or take it away. */
    private static final String[] TEXT_ONLY = {"type 97", "erase", "cycles 0", "rank 0", "word 0", "read 0 4",
        "decode 0 4"};

    public static void main(String[] args) {
        firstSentences();
        arrangements();
        products();
        cycles();
        text();
        cyclesAsText();
        readCycles();
        faults();
        ranksAsText();
        moves();
        tableaux();
        group();
        patterns();
        keeping();
        ring();
        exceptions();
        end();
    }

    private static void firstSentences() {
        says(TERMS, "An object is used for at most 512 calls after it has been made");
        due("all", new Room().answer("identity 0 6; " + repeated("next 0; ", 510) + "rank 0"), 3);
        due("all", new Room().answer("identity 0 6; " + repeated("next 0; ", 508) + "rank 0; signAt 0; signAt 2"), 8);
        due("all", new Room().answer(repeated("identity 0 24; ", 511) + "undo"), 0);
        due("all", new Room().answer("identity 0 7; rotate 0 1; " + repeated("generate 0 1; ", 509) + "orbit 0"), 7);
        due("all", new Room().answer(repeated("type 97; erase; ", 255) + "type 97; leastTurn"), 0);

        room();
        says(TERMS, "Numbering the arrangements of n things by rank, from 0 to n! less 1, is one to one, unranking "
                + "is its inverse");
        int all = 1;
        for (int size = 1; size <= 5; size++) {
            all *= size;
            for (int rank = 0; rank < all; rank++) {
                lets("typed " + rank + "; unrank 0 " + size + "; rank 0; text", "'" + rank + "'");
                String ranked = "identity 0 " + size + "; skip 0 " + rank;
                lets(ranked + "; next 0; rank 0; text", "'" + (rank + 1) % all + "'");
                lets(ranked + "; next 0", rank + 1 < all);
                lets(ranked + "; previous 0", rank > 0);
                lets(ranked + "; copy 0 1; next 1; compare 0 1", rank + 1 < all ? -1 : size == 1 ? 0 : 1);
            }
        }

        says(TERMS, "Turning it round leaves n times (n - 1) by 2, less its inversions. Exchanging its two tableaux is "
                + "inverting it.");
        int[] many = {1, 2, 6, 24, 120};
        for (int size = 1; size <= 5; size++) {
            for (int rank = 0; rank < many[size - 1]; rank++) {
                String[] ranked = {"identity 0 " + size, "skip 0 " + rank};
                int inversions = Integer.parseInt(new Room(ranked).answer("inversions 0"));
                room(ranked);
                lets("reverse 0; inversions 0", size * (size - 1) / 2 - inversions);
                lets("sign 0", inversions % 2 == 0 ? 1 : -1);
                lets("exchange 0 1; invert 0; compare 0 1", 0);
            }
        }
    }

    private static void arrangements() {
        says(TERMS, "Ten slots, numbered from 0, hold an arrangement each, or none, as at first.");
        room();
        for (int slot = 0; slot < 10; slot++) {
            lets("size " + slot, 0);
            refuses(NONE, "rank " + slot);
            lets("identity " + slot + " 4; size " + slot, 4);
            lets("identity " + slot + " 4; held", 1);
        }
        refuses(INDEX, "size 10", "size -1", "identity 10 4", "identity -1 4");

        says(TERMS, "An arrangement of a size, 1 to 24, is a row of places, numbered from 0, with the things 0 to "
                + "size less 1, one at each place.");
        lets("identity 0 1; row 0", "0");
        lets("identity 0 24; row 0", joined(0, 23));
        refuses(ARGUMENT, "identity 0 0", "identity 0 25", "read 0 0", "read 0 25", "decode 0 0", "decode 0 25",
                "typed 0; unrank 0 0", "typed 0; unrank 0 25", "riffles 0 true", "riffles 25 true");
        refuses(ARGUMENT, "identity 0 24; at 0 24", "identity 0 24; at 0 -1");

        says(TERMS, "A thing is fixed if it is at the place of its number.");
        lets("identity 0 24; multiply 0 0 0", 24);
        lets("identity 0 24; swap 0 0 23; power 0 1", 22);
        lets("identity 0 24; rotate 0 1; power 0 1", 0);
        lets("identity 0 23; reverse 0; power 0 1", 1);
        lets("identity 0 1; power 0 1", 1);

        says(TERMS, "One is ahead of another of the same size if it has the lesser thing at the first place where "
                + "they differ");
        lets("identity 0 24; copy 0 1; swap 1 22 23; compare 0 1", -1);
        lets("identity 0 24; copy 0 1; swap 1 22 23; compare 1 0", 1);
        lets("identity 0 24; copy 0 1; compare 0 1", 0);
        lets("identity 0 3; rotate 0 -1; identity 1 3; swap 1 0 2; compare 0 1", -1);

        says(TERMS, "of unlike sizes the first place counts where they differ, if there is one ahead of the end of the "
                + "shorter, else the shorter is ahead.");
        lets("identity 0 2; identity 1 3; compare 0 1", -1);
        lets("identity 0 2; identity 1 3; compare 1 0", 1);
        lets("identity 0 2; identity 1 3; swap 1 1 2; compare 0 1", -1);
        lets("identity 0 2; identity 1 3; swap 1 1 2; compare 1 0", 1);
        lets("identity 0 2; swap 0 0 1; identity 1 3; compare 0 1", 1);
        lets("identity 0 2; swap 0 0 1; identity 1 3; compare 1 0", -1);
        lets("identity 0 1; identity 1 24; compare 0 1", -1);
        lets("identity 0 1; identity 1 24; reverse 1; compare 0 1", -1);
        lets("identity 0 23; identity 1 24; compare 1 0", 1);
        lets("identity 0 23; swap 0 21 22; identity 1 24; compare 0 1", 1);
        lets("identity 0 23; identity 1 24; swap 1 22 23; compare 0 1", -1);

        says(TERMS, "Its code at a place is how many lesser things stand at greater places, its inversions are the "
                + "sum of its codes.");
        lets("identity 0 24; inversions 0", 0);
        lets("identity 0 24; swap 0 22 23; inversions 0", 1);
        lets("identity 0 24; swap 0 22 23; code 0 22", 1);
        lets("identity 0 24; reverse 0; inversions 0", 276);
        lets("identity 0 24; reverse 0; code 0 0", 23);
        lets("identity 0 24; reverse 0; code 0 23", 0);
        lets("identity 0 1; code 0 0", 0);
        lets("identity 0 1; inversions 0", 0);
    }

    private static void products() {
        says(TERMS, "The product of a left and a right arrangement of one size has at each place the thing that the "
                + "left one has at the place whose number is the thing of the right one there.");
        lets("multiply 0 1 9; row 9", "3 1 0 2");
        lets("multiply 1 0 9; row 9", "0 3 1 2");
        lets("multiply 4 4 9; row 9", "0");
        says(TERMS, "The identity has each thing fixed.");
        lets("identity 9 4; multiply 9 1 9; row 9", "3 0 1 2");
        lets("identity 9 4; multiply 1 9 9; row 9", "3 0 1 2");
        says(TERMS, "The inverse of one is that by which its product is the identity.");
        lets("copy 1 9; invert 9; multiply 1 9 0", 4);
        lets("copy 1 9; invert 9; multiply 9 1 0", 4);
        lets("rotate 3 5; copy 3 9; invert 9; multiply 3 9 0", 24);

        says(TERMS, "A power is a product of as many of it, of none the identity, with an exponent below 0 a power of "
                + "the inverse.");
        lets("power 1 0; row 1", "0 1 2 3");
        lets("power 1 1; row 1", "3 0 1 2");
        lets("power 1 -1; row 1", "1 2 3 0");
        lets("power 1 2; row 1", "2 3 0 1");
        lets("power 1 -2; row 1", "2 3 0 1");
        lets("power 1 3; row 1", "1 2 3 0");
        lets("power 1 4; row 1", "0 1 2 3");
        lets("power 1 -4; row 1", "0 1 2 3");
        lets("power 1 -5; row 1", "1 2 3 0");
        lets("power 1 4294967297; row 1", "3 0 1 2");
        lets("power 1 -4294967297; row 1", "1 2 3 0");
        lets("power 1 9223372036854775807; row 1", "1 2 3 0");
        lets("power 1 -9223372036854775808; row 1", "0 1 2 3");
        lets("power 1 -9223372036854775807; row 1", "3 0 1 2");
        // 2 to the 63rd is 2 more than a multiple of 3, and 3 more than one of 5.
        lets("typed (0 1 2); read 9 3; power 9 9223372036854775807; row 9", "1 2 0");
        lets("typed (0 1 2); read 9 3; power 9 -9223372036854775808; row 9", "1 2 0");
        lets("rotate 2 -1; power 2 9223372036854775807; row 2", "2 3 4 0 1");
        lets("rotate 2 -1; power 2 -9223372036854775808; row 2", "2 3 4 0 1");
        lets("power 4 -9223372036854775808; row 4", "0");
        lets("identity 9 24; rotate 9 -1; power 9 25; row 9", joined(1, 23) + " 0");
        lets("identity 9 24; rotate 9 -1; power 9 24; row 9", joined(0, 23));

        says(TERMS, "Its order is the least exponent above 0 with which the power is the identity.");
        lets("order 4", 1);
        lets("order 5", 1);
        lets("order 0", 2);
        for (int length = 1; length <= 24; length++) {
            room("identity 0 " + length, "rotate 0 1");
            lets("order 0", length);
            lets("power 0 " + length, length);
            lets("power 0 " + (length - 1), length == 1 ? 1 : 0);
        }
    }

    private static void cycles() {
        says(TERMS, "a fixed thing is a cycle of length 1.");
        lets("cyclesOf 4 1", 1);
        lets("cyclesOf 5 1", 6);
        lets("cyclesOf 0 1", 2);
        lets("cyclesOf 8 1", 0);
        lets("swaps 5", 0);
        says(TERMS, "The sign is 1 if the size less the number of cycles is even, else -1.");
        lets("sign 4", 1);
        lets("sign 5", 1);
        for (int size = 1; size <= 24; size++) {
            lets("identity 9 " + size + "; rotate 9 1; sign 9", size % 2 == 1 ? 1 : -1);
            lets("identity 9 " + size + "; sign 9", 1);
        }
    }

    private static void text() {
        says(TERMS, "There is one text, empty at first, of at most 80 signs, of the codes 32 to 126.");
        room();
        lets("text", "''");
        lets("erase", 0);
        lets("type 32; text", "' '");
        lets("type 126; text", "'~'");
        refuses(ARGUMENT, "type 31", "type 127");
        room("typed " + repeated("ab", 39) + "a");
        lets("type 33", 80);
        lets("type 33; text", "'" + repeated("ab", 39) + "a!'");
        refuses(STATE, "type 33; type 33");
        refuses(ARGUMENT, "type 33; type 31");

        says(TERMS, "Some calls put what they tell there, in place of what it was");
        room(FURNISHED, "typed " + repeated("z", 80));
        lets("cycles 0; text", "'(0 1)'");
        lets("cycles 5; text", "''");
        lets("rank 0; text", "'6'");
        lets("rank 5; text", "'0'");
        lets("word 0; text", "'a'");
        lets("identity 9 4; word 9; text", "''");
        lets("cycles 3; rank 0; cycles 0; text", "'(0 1)'");

        says(TERMS, "some read it, and take it away then, also at a fault, but not with an exception.");
        room(FURNISHED);
        lets("typed (0 1); read 0 4; text", "''");
        lets("typed (0 4); read 0 4; text", "''");
        lets("typed " + repeated("z", 80) + "; read 0 4; text", "''");
        lets("typed (0 1; read 0 4; text", "''");
        lets("typed 1000; decode 0 4; text", "''");
        lets("typed 4000; decode 0 4; text", "''");
        lets("typed " + repeated("z", 80) + "; decode 0 4; text", "''");
        lets("typed 1; decode 0 4; text", "''");
        lets("typed 1; unrank 0 4; text", "''");
        refuses(INDEX, "typed (0 1); read 10 4", "typed 1000; decode 10 4", "typed 1; unrank 10 4",
                "typed 1; cycles 10", "typed 1; rank 10", "typed 1; word 10");
        refuses(NONE, "typed 1; cycles 9", "typed 1; rank 9", "typed 1; word 9");
        refuses(ARGUMENT, "typed (0 1); read 0 25", "typed 1000; decode 0 25", "typed 1; unrank 0 25",
                "typed 24; unrank 0 4", "typed -1; unrank 0 4", "typed 1; word 2");
        refuses(NUMBER, "typed x; unrank 0 4", "typed " + repeated("z", 80) + "; unrank 0 4");
        refuses(UNSUPPORTED, "typed 1; word 1");
    }

    private static void cyclesAsText() {
        says(TERMS, "those of two things or more are told, each in parentheses, from its least place on, with a blank "
                + "between two numbers, in the order of their least places; the text of the identity is empty.");
        room();
        lets("identity 0 1; cycles 0; text", "''");
        lets("identity 0 24; cycles 0; text", "''");
        lets("identity 0 24; swap 0 0 23; cycles 0; text", "'(0 23)'");
        lets("identity 0 24; swap 0 9 10; cycles 0; text", "'(9 10)'");
        lets("identity 0 2; swap 0 0 1; cycles 0; text", "'(0 1)'");
        lets("typed (5 2)(4 1 3); read 0 6; cycles 0; text", "'(1 3 4)(2 5)'");
        lets("typed (5 0)(4 1 3); read 0 6; cycles 0; text", "'(0 5)(1 3 4)'");
        lets("identity 0 24; rotate 0 -1; cycles 0; text", "'(" + joined(0, 23) + ")'");
        lets("identity 0 24; rotate 0 1; cycles 0; text", "'(0 " + joined(23, 1) + ")'");
        lets("identity 0 24; rotate 0 1; cycles 0", 63);
        StringBuilder pairs = new StringBuilder("'");
        for (int place = 0; place < 12; place++) {
            pairs.append("(").append(place).append(" ").append(23 - place).append(")");
        }
        lets("identity 0 24; reverse 0; cycles 0; text", pairs + "'");
        lets("identity 0 24; reverse 0; cycles 0", 74);
        lets("identity 0 24; reverse 0; cycles 0; read 1 24", 12);
        lets("identity 0 24; reverse 0; cycles 0; read 1 24; compare 0 1", 0);
    }

    private static void reads(String told, int size, Object due) {
        lets("typed " + told + "; read 0 " + size, due);
    }

    private static void readCycles() {
        says(TERMS, "A text that is read for cycles is a row of cycles, perhaps none");
        room();
        reads("", 1, 0);
        reads("", 24, 0);
        lets("typed ; read 0 24; row 0", joined(0, 23));
        reads("(0)", 1, 1);
        reads("(0)(1)", 2, 2);
        reads("(0 1)(2)(3 4 5)", 6, 3);
        StringBuilder told = new StringBuilder();
        for (int thing = 0; thing < 22; thing++) {
            told.append("(").append(thing).append(")");
        }
        reads(told.toString(), 24, 22);
        reads(" ", 4, -1);
        reads("0", 4, -1);
        reads("(0) (1)", 4, -4);
        reads(" (0)", 4, -1);
        reads("(0) ", 4, -4);

        says(TERMS, "a cycle is '(', one number or more, with one blank between each two, and ')'.");
        reads("(0 1)", 4, 1);
        reads("()", 4, -2);
        reads("( 0)", 4, -2);
        reads("(0 )", 4, -4);
        reads("(0  1)", 4, -4);
        reads("(0,1)", 4, -3);
        reads("(0(1))", 4, -3);
        reads("((0))", 4, -2);
        reads("(0))", 4, -4);
        reads(")", 4, -1);
        reads("[0]", 4, -1);
        reads("(0]", 4, -3);
        reads("(0 ()", 4, -4);
        reads("(-1)", 4, -2);
        reads("(+1)", 4, -2);
        lets("typed (3 1 2); read 0 4; row 0", "0 2 3 1");
        lets("typed (0 1 2 3); read 0 4; row 0", "1 2 3 0");

        says(TERMS, "A number is as many digits, '0' to '9', as stand there.");
        reads("(0 1 2 3 4 5 6 7 8 9)", 10, 1);
        lets("typed (10 11 9); read 0 12; row 0", joined(0, 8) + " 10 11 9");
        lets("typed (00 003); read 0 4; row 0", "3 1 2 0");
        reads("(/)", 4, -2);
        reads("(:)", 4, -2);
        reads("(0/)", 4, -3);
        reads("(0:)", 4, -3);
        reads("(a)", 24, -2);
        reads("(" + repeated("0", 77) + "3)", 4, 1);
        lets("typed (" + repeated("0", 75) + "3 0); read 0 4; row 0", "3 1 2 0");
        reads("(" + repeated("0", 77) + "4)", 4, -2);
        reads("(" + repeated("9", 78) + ")", 24, -2);

        says(TERMS, "What is not told is fixed.");
        lets("typed (1 3); read 0 5; row 0", "0 3 2 1 4");
        lets("identity 0 5; reverse 0; typed (1 3); read 0 5; row 0", "0 3 2 1 4");
        lets("typed (22 23); read 0 24; row 0", joined(0, 21) + " 23 22");
    }

    private static void faults() {
        says(TERMS, "The fault of a text is the place, from 0, of the first sign that cannot stand there, or of the "
                + "first digit of the first number that is not below the size, or was told, whichever is ahead");
        room();
        for (int size = 1; size <= 24; size++) {
            reads("(" + (size - 1) + ")", size, 1);
            reads("(" + size + ")", size, -2);
            reads("(" + (size + 1) + ")", size, -2);
            reads("(0 " + size + ")", size, -4);
            reads("(0)(" + size + ")", size, -5);
        }
        reads("x", 4, -1);
        reads("(0)x", 4, -4);
        reads("(0 1)(2 3)x", 4, -11);
        reads("(0 1)(2 3)(", 4, -12);
        for (String number : new String[] {"256", "65536", "4294967296", "4294967297", "18446744073709551616",
            "18446744073709551617", "0000256", "1000000000000000000000000000000000000000"}) {
            reads("(2 " + number + ")", 4, -4);
        }
        reads("(1 1)", 4, -4);
        reads("(1)(1)", 4, -5);
        reads("(1 01)", 4, -4);
        reads("(0 1 2 0)", 4, -8);
        reads("(0 1)(2 1)", 4, -9);
        reads("(23)(23)", 24, -6);
        reads("(4 x", 4, -2);
        reads("(4x)", 4, -2);
        reads("(x 4)", 4, -2);
        reads("(0x 4)", 4, -3);
        reads("(0  4)", 4, -4);
        reads("(0 0 4)", 4, -4);
        reads("(0 4 0)", 4, -4);
        reads("(0 0x", 4, -4);
        reads("(12x)", 4, -2);
        reads("(1 12x)", 4, -4);
        reads("(1)4", 4, -4);

        says(TERMS, "its length, if it ends within a cycle.");
        reads("(", 4, -2);
        reads("(0", 4, -3);
        reads("(0 ", 4, -4);
        reads("(0 1", 4, -5);
        reads("(0 1 ", 4, -6);
        reads("(0)(", 4, -5);
        reads("(0 1)(2", 4, -8);
        reads("(" + repeated("0", 79), 4, -81);
        reads("(" + repeated("0", 78) + " ", 4, -81);
        reads("(4", 4, -2);
        reads("(0 0", 4, -4);
        reads("(0 1)", 4, 1);
    }

    private static void ranksAsText() {
        says(TERMS, "A rank as a text has one digit or more, '0' to '9', no '0' ahead of others.");
        room();
        lets("identity 0 1; rank 0; text", "'0'");
        lets("identity 0 24; rank 0; text", "'0'");
        lets("identity 0 24; next 0; rank 0; text", "'1'");
        lets("identity 0 24; skip 0 9; rank 0; text", "'9'");
        lets("identity 0 24; skip 0 10; rank 0; text", "'10'");
        lets("identity 0 24; skip 0 99; rank 0; text", "'99'");
        lets("identity 0 24; skip 0 100; rank 0; text", "'100'");
        lets("identity 0 24; skip 0 1234567890; rank 0; text", "'1234567890'");
        lets("identity 0 24; skip 0 1000000000000000000; rank 0; text", "'1000000000000000000'");
        lets("identity 0 24; skip 0 999999999999999999; rank 0; text", "'999999999999999999'");
        lets("identity 0 24; previous 0; rank 0; text", "'620448401733239439359999'");
        lets("typed 100000000000000000000000; unrank 0 24; rank 0; text", "'100000000000000000000000'");
        lets("typed 99999999999999999999999; unrank 0 24; rank 0; text", "'99999999999999999999999'");

        says(TERMS, "A text that is read for a rank is a number if it is perhaps one '+' or '-', and one digit or "
                + "more.");
        for (String told : new String[] {"5", "+5", "05", "+05", repeated("0", 79) + "5"}) {
            lets("typed " + told + "; unrank 0 3; row 0", "2 1 0");
        }
        for (String told : new String[] {"0", "+0", "-0", "-00", "-" + repeated("0", 79)}) {
            lets("typed " + told + "; unrank 0 3; row 0", "0 1 2");
        }
        refuses(NUMBER, "unrank 0 3");
        for (String told : new String[] {"+", "-", "++5", "-+5", "+-5", "--5", "5+", "5-", " 5", "5 ", "/", ":", "5/",
            "5:", "+ 5", "x", "5x"}) {
            refuses(NUMBER, "typed " + told + "; unrank 0 3");
        }
        refuses(ARGUMENT, "typed 6; unrank 0 3", "typed +6; unrank 0 3", "typed -1; unrank 0 3");
    }

    private static void moves() {
        says(TERMS, "To swap changes the things at two places.");
        lets("swap 1 0 3; row 1", "2 0 1 3");
        lets("swap 1 3 0; row 1", "2 0 1 3");
        lets("swap 1 1 1; row 1", "3 0 1 2");
        says(TERMS, "To rotate by a distance brings each thing that many places on, from the last place to place 0, "
                + "for a distance below 0 back.");
        for (int distance = -13; distance <= 13; distance++) {
            int first = Math.floorMod(-distance, 5);
            lets("rotate 2 " + distance, first);
            String row = joined(first, 4) + (first > 0 ? " " + joined(0, first - 1) : "");
            lets("rotate 2 " + distance + "; row 2", row);
        }
        lets("rotate 2 2147483647; row 2", "3 4 0 1 2");
        lets("rotate 2 -2147483648; row 2", "3 4 0 1 2");
        lets("identity 9 24; rotate 9 1; row 9", "23 " + joined(0, 22));
        lets("identity 9 24; rotate 9 -1; row 9", joined(1, 23) + " 0");
        lets("identity 9 24; rotate 9 2147483647", 17);
        lets("identity 9 24; rotate 9 -2147483648", 8);
        says(TERMS, "To flip the first ones turns these round.");
        String[] flipped = {"0 1 2 3 4", "0 1 2 3 4", "1 0 2 3 4", "2 1 0 3 4", "3 2 1 0 4", "4 3 2 1 0"};
        for (int many = 0; many <= 5; many++) {
            lets("flip 2 " + many + "; row 2", flipped[many]);
        }
        says(TERMS, "With an out one the front part has one thing more than the back part, if the size is odd, and its "
                + "first thing comes first; with an in one the back part has one more then, and its first thing comes "
                + "first.");
        String[] out = {"0", "0 1", "0 2 1", "0 2 1 3", "0 3 1 4 2", "0 3 1 4 2 5"};
        String[] in = {"0", "1 0", "1 0 2", "2 0 3 1", "2 0 3 1 4", "3 0 4 1 5 2"};
        for (int size = 1; size <= 6; size++) {
            lets("identity 9 " + size + "; riffle 9 true; row 9", out[size - 1]);
            lets("identity 9 " + size + "; riffle 9 false; row 9", in[size - 1]);
        }
        for (int size = 23; size <= 24; size++) {
            StringBuilder outer = new StringBuilder();
            StringBuilder inner = new StringBuilder();
            int half = size / 2;
            for (int place = 0; place < size; place++) {
                outer.append(place % 2 == 0 ? place / 2 : size - half + place / 2).append(' ');
                inner.append(place % 2 == 0 ? half + place / 2 : place / 2).append(' ');
            }
            lets("identity 9 " + size + "; riffle 9 true; row 9", outer.toString().trim());
            lets("identity 9 " + size + "; riffle 9 false; row 9", inner.toString().trim());
        }
    }

    private static void entries(String codes, String[] insertion, String[] recording) {
        room("typed " + codes, "decode 0 " + codes.length());
        for (int row = 0; row < insertion.length; row++) {
            String[] things = insertion[row].split(" ");
            String[] numbers = recording[row].split(" ");
            lets("shape 0 " + row, things.length);
            for (int column = 0; column < things.length; column++) {
                lets("entry 0 false " + row + " " + column, things[column]);
                lets("entry 0 true " + row + " " + column, numbers[column]);
            }
            refuses(NONE, "entry 0 false " + row + " " + things.length, "entry 0 true " + row + " " + things.length);
        }
        lets("shape 0 " + insertion.length, 0);
        refuses(NONE, "entry 0 false " + insertion.length + " 0", "entry 0 true " + insertion.length + " 0");
    }

    private static void tableaux() {
        says(TERMS, "each into row 0, where it takes the place of the least thing there that is greater, which goes "
                + "into the next row in the same way; if there is none greater, it stands at the end of that row, and "
                + "it grew there.");
        // The rows 1 3 4 0 2, 3 0 4 2 1, 0, 0 1 2 3, 3 2 1 0 and 2 5 1 4 0 3.
        entries("12200", new String[] {"0 2 4", "1 3"}, new String[] {"0 1 2", "3 4"});
        entries("30210", new String[] {"0 1", "2 4", "3"}, new String[] {"0 2", "1 3", "4"});
        entries("0", new String[] {"0"}, new String[] {"0"});
        entries("0000", new String[] {"0 1 2 3"}, new String[] {"0 1 2 3"});
        entries("3210", new String[] {"0", "1", "2", "3"}, new String[] {"0", "1", "2", "3"});
        entries("241200", new String[] {"0 3", "1 4", "2 5"}, new String[] {"0 1", "2 3", "4 5"});
        says(TERMS, "the recording tableau has, where a row grew, the number of the place from which the thing came "
                + "that was to come in then.");
        entries("1000", new String[] {"0 2 3", "1"}, new String[] {"0 2 3", "1"});
        entries("0010", new String[] {"0 1 2", "3"}, new String[] {"0 1 2", "3"});
        entries("0110", new String[] {"0 1 3", "2"}, new String[] {"0 1 2", "3"});
    }

    private static void group() {
        says(TERMS, "of any number of them, each as often as one likes");
        lets("generate 2 1", 1);
        lets("generate 4 1; isMember 4", true);
        lets("identity 9 4; isMember 9", true);
        lets("generate 1 1; identity 9 4; isMember 9", true);
        lets("generate 1 1; copy 1 9; power 9 3; isMember 9", true);
        lets("generate 1 1; isMember 8", true);
        lets("generate 1 1; isMember 0", false);
        says(TERMS, "it stays until another one is generated.");
        room(FURNISHED, repeated("undo; ", 11) + "undo");
        lets("isMember 0", true);
        lets("word 0", 0);
        lets("swap 0 0 1; word 0; text", "'a'");
        lets("orbit 0", 2);
        room(FURNISHED, "identity 0 9", "undo", "undo", "undo", "undo", "erase", "identity 0 24");
        lets("stabiliser 0", 2);
        lets("orbit 0", 2);
        lets("typed (0 1); read 9 4; isMember 9", true);
        lets("typed (0 1); read 9 4; word 9; text", "'a'");
        refuses(ARGUMENT, "isMember 0", "word 0");
        refuses(NONE, "generate 8 2");
        refuses(ARGUMENT, "generate 0 1", "generate 0 2", "generate 3 1");
        refuses(INDEX, "generate 9 2");
        lets("rotate 6 1; generate 6 1; orbit 6", 7);
        lets("rotate 6 1; generate 6 1; stabiliser 0", 7);
        lets("rotate 6 1; generate 6 1; generate 4 1; stabiliser 0", 1);
        refuses(ARGUMENT, "rotate 6 1; generate 6 1; generate 4 1; orbit 1", "generate 4 1; typed (0 1); read 9 4; "
                + "isMember 9");

        says(TERMS, "A word tells a product by letters, 'a' for the first of these slots, 'b' for the next one, and so "
                + "on, the left one first; the empty word is the identity.");
        room(NEIGHBOURS);
        lets("word 0; text", "''");
        lets("word 6; text", "'a'");
        lets("word 7; text", "'b'");
        lets("word 8; text", "'c'");
        lets("word 9; text", "'d'");
        lets("multiply 6 7 0; word 0; text", "'ab'");
        lets("multiply 7 6 0; word 0; text", "'ba'");
        lets("multiply 9 6 0; word 0; text", "'ad'");
        lets("multiply 6 7 0; multiply 0 6 0; word 0; text", "'aba'");
        lets("multiply 9 8 0; multiply 0 7 0; multiply 0 6 0; word 0; text", "'dcba'");
        lets("reverse 0; word 0", 10);
        lets("reverse 0; word 0; text", "'abacbadcba'");
        lets("generate 9 1; word 9; text", "'a'");
        lets("generate 7 3; word 9; text", "'c'");

        says(TERMS, "The orbit of a thing are the things that stand in members at the place of its number.");
        room(NEIGHBOURS);
        lets("orbit 0", 5);
        lets("orbit 4", 5);
        lets("generate 6 1; orbit 0", 2);
        lets("generate 6 1; orbit 2", 1);
        lets("generate 6 2; orbit 2", 3);
        lets("generate 6 2; orbit 3", 1);
        lets("generate 0 1; orbit 4", 1);
        says(TERMS, "The stabiliser of a number are the members in which all things below this number are fixed.");
        room(NEIGHBOURS);
        int[] all = {120, 24, 6, 2, 1, 1};
        for (int number = 0; number <= 5; number++) {
            lets("stabiliser " + number, all[number]);
        }
        refuses(ARGUMENT, "stabiliser 6", "stabiliser -1");
        lets("generate 9 1; stabiliser 3", 2);
        lets("generate 9 1; stabiliser 4", 1);
        lets("generate 6 1; stabiliser 1", 1);
    }

    private static void patterns() {
        says(TERMS, "An arrangement contains a pattern, which is an arrangement, too, if there are as many of its "
                + "places, ascending, as the pattern has, whose things are ordered as those of the pattern; otherwise "
                + "it avoids it.");
        lets("contains 4 4", true);
        lets("contains 3 4", true);
        lets("contains 4 0", false);
        lets("contains 0 0", true);
        lets("contains 0 1", false);
        lets("contains 0 2", false);
        lets("contains 2 2", true);
        lets("contains 5 2", true);
        lets("identity 9 2; contains 3 9", false);
        lets("identity 9 2; contains 0 9", true);
        lets("identity 9 2; swap 9 0 1; contains 0 9", true);
        lets("identity 9 2; swap 9 0 1; contains 2 9", false);
        lets("identity 9 5; reverse 9; contains 3 9", true);
        lets("identity 9 5; identity 0 24; swap 0 22 23; contains 0 9", true);
        lets("identity 9 3; swap 9 1 2; identity 0 24; swap 0 22 23; contains 0 9", true);
        lets("identity 9 3; swap 9 0 1; identity 0 24; swap 0 22 23; contains 0 9", false);
        lets("identity 9 3; swap 9 0 1; identity 0 24; swap 0 0 1; contains 0 9", true);
        lets("identity 9 3; swap 9 1 2; identity 0 24; swap 0 0 1; contains 0 9", false);
        lets("avoiders 4 1", 0);
        lets("avoiders 2 4", 24);
        lets("avoiders 2 5", 119);
    }

    private static void keeping() {
        says(TERMS, "Each call that says that a slot becomes something, keeps what this slot held ahead of it");
        room(ELEVEN);
        lets("kept", 11);
        for (String call : BECOMING) {
            lets(call + "; kept", 12);
            lets(call + "; undo", 1);
            lets(call + "; undo; row 1", "3 0 1 2");
            due(call, new Room(ELEVEN, call).answer("row 1").equals("3 0 1 2"), false);
            sameState(call + " and undo", new Room(ELEVEN, call, "undo", "erase"), new Room(ELEVEN, "erase"));
        }
        lets("multiply 0 1 9; undo", 9);
        lets("multiply 0 1 9; undo; size 9", 0);
        says(TERMS, "also if it becomes the same");
        room(ELEVEN);
        for (String call : BECOMING_THE_SAME) {
            lets(call + "; kept", 12);
            due(call, new Room(ELEVEN, call).answer("checksum"), new Room(ELEVEN).answer("checksum"));
            sameState(call + " and undo", new Room(ELEVEN, call, "undo", "erase"), new Room(ELEVEN, "erase"));
        }
        says(TERMS, "Each call that says that a slot becomes something, keeps");
        room(FURNISHED, "typed ab");
        leaves(TELLING);
        for (String call : TEXT_ONLY) {
            sameState(call, new Room(FURNISHED, "typed ab", call, "erase"), new Room(FURNISHED));
        }
        room();
        lets("identity 0 4; generate 0 1; kept", 1);
        says(TERMS, "The text is not kept.");
        room("identity 0 4", "typed abc");
        lets("undo; text", "'abc'");
        lets("cycles 0; undo; text", "''");
        lets("typed (0 1); read 0 4; undo; text", "''");
        lets("typed (0 1); read 0 4; typed x; undo; text", "'x'");
        lets("typed 7; unrank 0 4; undo; text", "''");
        lets("typed 1000; decode 0 4; undo; text", "''");
        lets("rank 0; next 0; undo; text", "'0'");
    }

    private static void ring() {
        says(TERMS, "at most twelve of these, the oldest one being forgotten.");
        room();
        for (int many = 0; many <= 30; many++) {
            StringBuilder calls = new StringBuilder();
            for (int call = 0; call < many; call++) {
                calls.append("identity ").append(call % 10).append(' ').append(call % 24 + 1).append("; ");
            }
            lets(calls + "kept", Math.min(many, 12));
        }
        lets(repeated("identity 0 1; ", 12) + repeated("undo; ", 12) + "size 0", 0);
        lets(repeated("identity 0 1; ", 13) + repeated("undo; ", 12) + "size 0", 1);
        refuses(NONE, repeated("identity 0 1; ", 12) + repeated("undo; ", 12) + "undo");
        refuses(NONE, repeated("identity 0 1; ", 13) + repeated("undo; ", 12) + "undo");
        lets("identity 9 24; identity 9 23; " + repeated("identity 0 1; ", 11) + repeated("undo; ", 12) + "size 9", 24);
        lets("identity 9 24; identity 9 23; " + repeated("identity 0 1; ", 12) + repeated("undo; ", 12) + "size 9", 23);
        // The calls to and fro, against a row of what is kept.
        int[] steps = {12, -5, 8, -12, 3, -1, 20, -11, 11, -6, 1, -7, 13, -12, 12, -1, 1, -12};
        Room room = new Room();
        Deque<String> kept = new ArrayDeque<>();
        String[] sizes = new String[10];
        java.util.Arrays.fill(sizes, "0");
        int made = 0;
        for (int step : steps) {
            for (int call = 0; call < Math.abs(step); call++) {
                if (step > 0) {
                    made++;
                    int slot = made * 7 % 10;
                    String size = String.valueOf(made % 24 + 1);
                    kept.addLast(slot + " " + sizes[slot]);
                    sizes[slot] = size;
                    due("identity " + slot, room.answer("identity " + slot + " " + size), size);
                } else {
                    String[] last = kept.removeLast().split(" ");
                    sizes[Integer.parseInt(last[0])] = last[1];
                    due("undo", room.answer("undo"), last[0]);
                    due("size " + last[0], room.answer("size " + last[0]), last[1]);
                }
                if (kept.size() > 12) {
                    kept.removeFirst();
                }
            }
        }
        due("undo", room.answer("undo"), kept.isEmpty() ? NONE : kept.removeLast().split(" ")[0]);
    }

    private static void exceptions() {
        says(TERMS, "A method that throws an exception changes nothing.");
        room(FURNISHED, "typed (0 1)");
        refuses(INDEX, "identity 10 4", "copy 0 10", "read 10 4", "generate 8 3");
        refuses(NONE, "copy 9 0", "rank 9", "cycles 9", "generate 8 2", "exchange 9 0");
        refuses(ARGUMENT, "identity 0 25", "read 0 25", "swap 0 0 4", "flip 0 5", "generate 0 3", "multiply 0 2 0");
        refuses(NUMBER, "unrank 0 4");
        refuses(UNSUPPORTED, "word 1");
        says(TERMS, "If several exceptions apply, the one that is documented first is thrown.");
        refuses(INDEX, "identity 10 25", "copy 9 10", "read 10 25", "at 10 24", "unrank 10 25", "multiply 9 2 10",
                "conjugate 0 2 10", "cyclesOf 10 0", "hasRoot 10 0", "swap 10 4 4", "flip 10 -1", "code 10 4",
                "decode 10 25", "shape 10 24", "entry 10 true 24 24", "exchange 9 10", "generate 6 5", "isMember 10",
                "word 10", "contains 9 10", "avoiders 10 7", "compare 9 10", "isAlike 9 10");
        refuses(NONE, "at 9 24", "multiply 9 2 0", "conjugate 2 9 0", "cyclesOf 9 0", "hasRoot 9 0", "swap 9 4 4",
                "flip 9 -1", "code 9 24", "shape 9 24", "generate 5 5", "isMember 9", "word 9", "contains 9 5",
                "avoiders 9 7");
        refuses(NUMBER, "unrank 0 25", "unrank 9 0");
        room(WITHOUT_GROUP);
        refuses(INDEX, "isMember 10", "word 10");
        refuses(NONE, "isMember 9", "word 9");
        refuses(STATE, "isMember 2", "word 2", "orbit -1", "orbit 24", "stabiliser -1", "stabiliser 24");
        room(FURNISHED, "typed " + repeated("a", 80));
        refuses(ARGUMENT, "type 31", "type 127");
        refuses(ARGUMENT, "word 2", "isMember 2");
    }
}
