import java.util.Arrays;
import java.util.NoSuchElementException;

/**
 * A cabinet of ten slots for arrangements, with one text, one group and an undo of twelve calls.
 * What each call promises stands in DOC.md; how it is kept here stands in README.md.
 */
public final class ArrangementCabinet {
    private static final int SLOTS = 10;
    private static final int MOST_THINGS = 24;
    private static final int MOST_SIGNS = 80;
    private static final int MOST_KEPT = 12;
    private static final int MOST_DIGITS = 24;
    private static final int MOST_EXPONENT = 9;
    private static final int MOST_FLIPPED = 6;
    private static final int FLIPPED_ARRANGEMENTS = 720;
    private static final int MOST_GENERATORS = 4;
    private static final int MOST_GROUPED = 7;
    private static final int GROUPED_ARRANGEMENTS = 5040;
    private static final int MOST_PATTERN = 5;
    private static final int MOST_AVOIDING = 6;
    private static final int MOST_BEADS = 18;
    private static final int MOST_COLOURS = 9;

    private final Row[] slots = new Row[SLOTS];
    private final Text text = new Text();
    private final CycleReader cycleReader = new CycleReader();
    private final History history = new History();
    private final Codes codes = new Codes();
    private final Tableaux tableaux = new Tableaux();
    private final CycleType cycleType = new CycleType();
    private final CycleType otherType = new CycleType();
    private final Walk group = new Walk(GROUPED_ARRANGEMENTS);
    private final Walk flipWalk = new Walk(FLIPPED_ARRANGEMENTS);
    private final PatternSearch patterns = new PatternSearch();
    /** What a slot is about to become; free between calls. */
    private final Row made = new Row();
    /** A second row for calls that need one; free between calls. */
    private final Row spare = new Row();

    public ArrangementCabinet() {
        for (int slot = 0; slot < SLOTS; slot++) {
            slots[slot] = new Row();
        }
    }

    // ---- arrangements

    public int identity(int slot, int size) throws IndexOutOfBoundsException, IllegalArgumentException {
        needSlot(slot);
        needSize(size);
        made.takeIdentity(size);
        become(slot);
        return size;
    }

    public int copy(int slot, int to) throws IndexOutOfBoundsException, NoSuchElementException {
        needSlot(slot);
        needSlot(to);
        needHeld(slot);
        made.takeCopy(slots[slot]);
        become(to);
        return made.size;
    }

    public int type(char sign) throws IllegalArgumentException, IllegalStateException {
        if (sign < 32 || sign > 126) {
            throw new IllegalArgumentException("no sign of a text");
        }
        if (text.length >= MOST_SIGNS) {
            throw new IllegalStateException("the text is full");
        }
        text.put(sign);
        return text.length;
    }

    public int erase() {
        int had = text.length;
        text.clear();
        return had;
    }

    public char signAt(int place) throws IllegalArgumentException {
        if (place < 0 || place >= text.length) {
            throw new IllegalArgumentException("no such place in the text");
        }
        return text.signs[place];
    }

    public int read(int slot, int size) throws IndexOutOfBoundsException, IllegalArgumentException {
        needSlot(slot);
        needSize(size);
        int told = cycleReader.readInto(made, text, size);
        text.clear();
        if (told >= 0) {
            become(slot);
        }
        return told;
    }

    public int cycles(int slot) throws IndexOutOfBoundsException, NoSuchElementException {
        needSlot(slot);
        needHeld(slot);
        text.clear();
        text.putCycles(slots[slot]);
        return text.length;
    }

    public int size(int slot) throws IndexOutOfBoundsException {
        needSlot(slot);
        return slots[slot].size;
    }

    public int at(int slot, int place)
            throws IndexOutOfBoundsException, NoSuchElementException, IllegalArgumentException {
        needSlot(slot);
        needHeld(slot);
        needPlace(slot, place);
        return slots[slot].things[place];
    }

    public int undo() throws NoSuchElementException {
        if (history.count == 0) {
            throw new NoSuchElementException("no call is kept");
        }
        int slot = history.latestSlot();
        slots[slot].takeCopy(history.latestRow());
        history.dropLatest();
        return slot;
    }

    // ---- ranks

    public int rank(int slot) throws IndexOutOfBoundsException, NoSuchElementException {
        needSlot(slot);
        needHeld(slot);
        codes.takeFrom(slots[slot]);
        codes.fillDigits();
        text.clear();
        text.putRank(codes.digits);
        return text.length;
    }

    public int unrank(int slot, int size)
            throws IndexOutOfBoundsException, NumberFormatException, IllegalArgumentException {
        needSlot(slot);
        if (!text.isNumber()) {
            throw new NumberFormatException("the text is no number");
        }
        needSize(size);
        if (!codes.takeRank(text, size)) {
            throw new IllegalArgumentException("no arrangement of this size has this rank");
        }
        text.clear();
        codes.giveTo(made);
        become(slot);
        return made.things[0];
    }

    public boolean next(int slot) throws IndexOutOfBoundsException, NoSuchElementException {
        needSlot(slot);
        needHeld(slot);
        return step(slot, 1L) == 0L;
    }

    public boolean previous(int slot) throws IndexOutOfBoundsException, NoSuchElementException {
        needSlot(slot);
        needHeld(slot);
        return step(slot, -1L) == 0L;
    }

    public int skip(int slot, long by) throws IndexOutOfBoundsException, NoSuchElementException {
        needSlot(slot);
        needHeld(slot);
        step(slot, by);
        return made.things[0];
    }

    public int compare(int slot, int other) throws IndexOutOfBoundsException, NoSuchElementException {
        needSlot(slot);
        needSlot(other);
        needHeld(slot);
        needHeld(other);
        return slots[slot].comparedWith(slots[other]);
    }

    // ---- products

    public int multiply(int left, int right, int to)
            throws IndexOutOfBoundsException, NoSuchElementException, IllegalArgumentException {
        needSlot(left);
        needSlot(right);
        needSlot(to);
        needHeld(left);
        needHeld(right);
        needOneSize(left, right);
        made.takeProduct(slots[left], slots[right]);
        become(to);
        return made.fixedThings();
    }

    public int invert(int slot) throws IndexOutOfBoundsException, NoSuchElementException {
        needSlot(slot);
        needHeld(slot);
        made.takeInverse(slots[slot]);
        become(slot);
        return made.things[0];
    }

    public int power(int slot, long exponent) throws IndexOutOfBoundsException, NoSuchElementException {
        needSlot(slot);
        needHeld(slot);
        made.takePower(slots[slot], exponent);
        become(slot);
        return made.fixedThings();
    }

    public int conjugate(int slot, int by, int to)
            throws IndexOutOfBoundsException, NoSuchElementException, IllegalArgumentException {
        needSlot(slot);
        needSlot(by);
        needSlot(to);
        needHeld(slot);
        needHeld(by);
        needOneSize(slot, by);
        made.takeConjugate(slots[slot], slots[by]);
        become(to);
        return made.things[0];
    }

    public int order(int slot) throws IndexOutOfBoundsException, NoSuchElementException {
        needSlot(slot);
        needHeld(slot);
        cycleType.takeFrom(slots[slot]);
        return cycleType.leastCommonMultiple();
    }

    public int sign(int slot) throws IndexOutOfBoundsException, NoSuchElementException {
        needSlot(slot);
        needHeld(slot);
        return slots[slot].leastSwaps() % 2 == 0 ? 1 : -1;
    }

    public int cyclesOf(int slot, int length)
            throws IndexOutOfBoundsException, NoSuchElementException, IllegalArgumentException {
        needSlot(slot);
        needHeld(slot);
        if (length < 1 || length > MOST_THINGS) {
            throw new IllegalArgumentException("no such length of a cycle");
        }
        cycleType.takeFrom(slots[slot]);
        return cycleType.many[length];
    }

    public boolean isAlike(int slot, int other) throws IndexOutOfBoundsException, NoSuchElementException {
        needSlot(slot);
        needSlot(other);
        needHeld(slot);
        needHeld(other);
        cycleType.takeFrom(slots[slot]);
        otherType.takeFrom(slots[other]);
        return cycleType.isSameAs(otherType);
    }

    public boolean hasRoot(int slot, int exponent)
            throws IndexOutOfBoundsException, NoSuchElementException, IllegalArgumentException {
        needSlot(slot);
        needHeld(slot);
        if (exponent < 1 || exponent > MOST_EXPONENT) {
            throw new IllegalArgumentException("no such exponent of a root");
        }
        cycleType.takeFrom(slots[slot]);
        return cycleType.isPower(exponent);
    }

    // ---- moves

    public int swap(int slot, int place, int other)
            throws IndexOutOfBoundsException, NoSuchElementException, IllegalArgumentException {
        needSlot(slot);
        needHeld(slot);
        needPlace(slot, place);
        needPlace(slot, other);
        made.takeSwap(slots[slot], place, other);
        become(slot);
        return made.things[place];
    }

    public int rotate(int slot, int distance) throws IndexOutOfBoundsException, NoSuchElementException {
        needSlot(slot);
        needHeld(slot);
        made.takeRotation(slots[slot], distance);
        become(slot);
        return made.things[0];
    }

    public int reverse(int slot) throws IndexOutOfBoundsException, NoSuchElementException {
        needSlot(slot);
        needHeld(slot);
        made.takeFlip(slots[slot], slots[slot].size);
        become(slot);
        return made.things[0];
    }

    public int flip(int slot, int many)
            throws IndexOutOfBoundsException, NoSuchElementException, IllegalArgumentException {
        needSlot(slot);
        needHeld(slot);
        if (many < 0 || many > slots[slot].size) {
            throw new IllegalArgumentException("not so many things to flip");
        }
        made.takeFlip(slots[slot], many);
        become(slot);
        return made.things[0];
    }

    public int riffle(int slot, boolean isOut) throws IndexOutOfBoundsException, NoSuchElementException {
        needSlot(slot);
        needHeld(slot);
        made.takeRiffle(slots[slot], isOut);
        become(slot);
        return made.things[0];
    }

    public int riffles(int size, boolean isOut) throws IllegalArgumentException {
        needSize(size);
        spare.takeIdentity(size);
        made.takeRiffle(spare, isOut);
        cycleType.takeFrom(made);
        return cycleType.leastCommonMultiple();
    }

    // ---- counts

    public int inversions(int slot) throws IndexOutOfBoundsException, NoSuchElementException {
        needSlot(slot);
        needHeld(slot);
        return slots[slot].sumOfCodes();
    }

    public int code(int slot, int place)
            throws IndexOutOfBoundsException, NoSuchElementException, IllegalArgumentException {
        needSlot(slot);
        needHeld(slot);
        needPlace(slot, place);
        return slots[slot].codeAt(place);
    }

    public int decode(int slot, int size) throws IndexOutOfBoundsException, IllegalArgumentException {
        needSlot(slot);
        needSize(size);
        int fault = codes.takeSigns(text, size);
        text.clear();
        if (fault >= 0) {
            return -1 - fault;
        }
        codes.giveTo(made);
        become(slot);
        return made.sumOfCodes();
    }

    public int swaps(int slot) throws IndexOutOfBoundsException, NoSuchElementException {
        needSlot(slot);
        needHeld(slot);
        return slots[slot].leastSwaps();
    }

    public int flips(int slot)
            throws IndexOutOfBoundsException, NoSuchElementException, IllegalArgumentException {
        needSlot(slot);
        needHeld(slot);
        Row row = slots[slot];
        if (row.size > MOST_FLIPPED) {
            throw new IllegalArgumentException("too many things to flip");
        }
        if (flipWalk.size != row.size) {
            walkFlips(row.size);
        }
        return flipWalk.wordLength(flipWalk.numberOf(row));
    }

    public int runs(int slot) throws IndexOutOfBoundsException, NoSuchElementException {
        needSlot(slot);
        needHeld(slot);
        return slots[slot].ascendingRuns();
    }

    public int longest(int slot) throws IndexOutOfBoundsException, NoSuchElementException {
        needSlot(slot);
        needHeld(slot);
        tableaux.takeFrom(slots[slot]);
        // Schensted: row 0 grows to the length of the longest ascending choice of places.
        return tableaux.lengths[0];
    }

    public int shape(int slot, int row)
            throws IndexOutOfBoundsException, NoSuchElementException, IllegalArgumentException {
        needSlot(slot);
        needHeld(slot);
        if (row < 0 || row >= MOST_THINGS) {
            throw new IllegalArgumentException("no such row of a tableau");
        }
        tableaux.takeFrom(slots[slot]);
        return tableaux.lengths[row];
    }

    public int entry(int slot, boolean isRecording, int row, int column)
            throws IndexOutOfBoundsException, NoSuchElementException {
        needSlot(slot);
        needHeld(slot);
        tableaux.takeFrom(slots[slot]);
        if (row < 0 || row >= MOST_THINGS || column < 0 || column >= tableaux.lengths[row]) {
            throw new NoSuchElementException("no such place in the tableau");
        }
        return isRecording ? tableaux.recording[row][column] : tableaux.insertion[row][column];
    }

    public int exchange(int slot, int to) throws IndexOutOfBoundsException, NoSuchElementException {
        needSlot(slot);
        needSlot(to);
        needHeld(slot);
        tableaux.takeFrom(slots[slot]);
        tableaux.giveExchanged(made);
        become(to);
        return made.things[0];
    }

    // ---- groups

    public int generate(int first, int many)
            throws IndexOutOfBoundsException, NoSuchElementException, IllegalArgumentException {
        if (many < 1 || many > SLOTS || first < 0 || first > SLOTS - many) {
            throw new IndexOutOfBoundsException("no such slots");
        }
        for (int slot = first; slot < first + many; slot++) {
            needHeld(slot);
        }
        if (many > MOST_GENERATORS || slots[first].size > MOST_GROUPED) {
            throw new IllegalArgumentException("too much to generate a group of");
        }
        for (int slot = first; slot < first + many; slot++) {
            needOneSize(first, slot);
        }
        for (int letter = 0; letter < many; letter++) {
            group.takeGenerator(letter, slots[first + letter]);
        }
        group.spread(slots[first].size, many);
        return group.count;
    }

    public boolean isMember(int slot)
            throws IndexOutOfBoundsException, NoSuchElementException, IllegalStateException,
            IllegalArgumentException {
        needSlot(slot);
        needHeld(slot);
        needGroup();
        needSizeOfGroup(slot);
        return group.numberOf(slots[slot]) >= 0;
    }

    public int word(int slot)
            throws IndexOutOfBoundsException, NoSuchElementException, IllegalStateException,
            IllegalArgumentException, UnsupportedOperationException {
        needSlot(slot);
        needHeld(slot);
        needGroup();
        needSizeOfGroup(slot);
        int number = group.numberOf(slots[slot]);
        if (number < 0) {
            throw new UnsupportedOperationException("no member of the group");
        }
        group.putWord(number, text);
        return text.length;
    }

    public int orbit(int thing) throws IllegalStateException, IllegalArgumentException {
        needGroup();
        if (thing < 0 || thing >= group.size) {
            throw new IllegalArgumentException("no such thing in the group");
        }
        return group.thingsAt(thing, 0);
    }

    public int stabiliser(int number) throws IllegalStateException, IllegalArgumentException {
        needGroup();
        if (number < 0 || number > group.size) {
            throw new IllegalArgumentException("no such number in the group");
        }
        return group.membersFixing(number);
    }

    // ---- patterns and turns

    public boolean contains(int slot, int pattern)
            throws IndexOutOfBoundsException, NoSuchElementException, IllegalArgumentException {
        needSlot(slot);
        needSlot(pattern);
        needHeld(slot);
        needHeld(pattern);
        needPattern(pattern);
        return patterns.isFound(slots[slot], slots[pattern]);
    }

    public int avoiders(int pattern, int size)
            throws IndexOutOfBoundsException, NoSuchElementException, IllegalArgumentException {
        needSlot(pattern);
        needHeld(pattern);
        needPattern(pattern);
        if (size < 1 || size > MOST_AVOIDING) {
            throw new IllegalArgumentException("no such size of those that avoid");
        }
        int avoiding = 0;
        int all = factorial(size);
        codes.clear(size);
        for (int rank = 0; rank < all; rank++) {
            codes.giveTo(made);
            if (!patterns.isFound(made, slots[pattern])) {
                avoiding++;
            }
            codes.add(1L);
        }
        return avoiding;
    }

    public int leastTurn() throws IllegalStateException {
        if (text.length == 0) {
            throw new IllegalStateException("the text is empty");
        }
        int least = 0;
        for (int turn = 1; turn < text.length; turn++) {
            if (text.isTurnLess(turn, least)) {
                least = turn;
            }
        }
        return least;
    }

    public long necklaces(int beads, int colours) throws IllegalArgumentException {
        if (beads < 1 || beads > MOST_BEADS || colours < 1 || colours > MOST_COLOURS) {
            throw new IllegalArgumentException("no such number of beads or colours");
        }
        // Burnside: the mean, over all turns, of the rows that a turn leaves as they are.
        long unturned = 0L;
        for (int turn = 1; turn <= beads; turn++) {
            unturned += powerOf(colours, greatestDivisor(turn, beads));
        }
        return unturned / beads;
    }

    // ---- figures

    public int held() {
        int holding = 0;
        for (int slot = 0; slot < SLOTS; slot++) {
            if (slots[slot].size > 0) {
                holding++;
            }
        }
        return holding;
    }

    public long checksum() {
        long sum = 7L;
        for (int slot = 0; slot < SLOTS; slot++) {
            Row row = slots[slot];
            sum = 31L * sum + row.size;
            for (int place = 0; place < row.size; place++) {
                sum = 31L * sum + row.things[place];
            }
        }
        for (int place = 0; place < text.length; place++) {
            sum = 31L * sum + text.signs[place];
        }
        return sum;
    }

    public boolean isSound() {
        for (int slot = 0; slot < SLOTS; slot++) {
            if (slots[slot].size > 0 && !isRowSound(slots[slot])) {
                return false;
            }
        }
        return group.size == 0 || isGroupSound();
    }

    // ---- what the calls need

    private static void needSlot(int slot) {
        if (slot < 0 || slot >= SLOTS) {
            throw new IndexOutOfBoundsException("no such slot");
        }
    }

    private static void needSize(int size) {
        if (size < 1 || size > MOST_THINGS) {
            throw new IllegalArgumentException("no such size");
        }
    }

    private void needHeld(int slot) {
        if (slots[slot].size == 0) {
            throw new NoSuchElementException("the slot holds none");
        }
    }

    private void needPlace(int slot, int place) {
        if (place < 0 || place >= slots[slot].size) {
            throw new IllegalArgumentException("no such place");
        }
    }

    private void needOneSize(int slot, int other) {
        if (slots[slot].size != slots[other].size) {
            throw new IllegalArgumentException("the sizes differ");
        }
    }

    private void needPattern(int slot) {
        if (slots[slot].size > MOST_PATTERN) {
            throw new IllegalArgumentException("too large for a pattern");
        }
    }

    private void needGroup() {
        if (group.size == 0) {
            throw new IllegalStateException("no group was generated");
        }
    }

    private void needSizeOfGroup(int slot) {
        if (slots[slot].size != group.size) {
            throw new IllegalArgumentException("not the size of the group");
        }
    }

    // ---- what the calls share

    private void become(int slot) {
        history.keep(slot, slots[slot]);
        slots[slot].takeCopy(made);
    }

    /** Steps on by a number of ranks and answers how often the last rank was passed, below 0 backwards. */
    private long step(int slot, long by) {
        codes.takeFrom(slots[slot]);
        long rounds = codes.add(by);
        codes.giveTo(made);
        become(slot);
        return rounds;
    }

    private void walkFlips(int size) {
        spare.takeIdentity(size);
        for (int many = 2; many <= size; many++) {
            made.takeFlip(spare, many);
            flipWalk.takeGenerator(many - 2, made);
        }
        flipWalk.spread(size, size - 1);
    }

    private boolean isRowSound(Row row) {
        int inverted = row.sumOfCodes();
        spare.takeFlip(row, row.size);
        return isRankSound(row)
                && isOrderSound(row)
                && (row.leastSwaps() - inverted) % 2 == 0
                && inverted + spare.sumOfCodes() == row.size * (row.size - 1) / 2
                && isExchangeSound(row);
    }

    private boolean isRankSound(Row row) {
        codes.takeFrom(row);
        codes.fillDigits();
        if (!codes.takeDigits(row.size)) {
            return false;
        }
        codes.giveTo(made);
        if (!made.isSameAs(row)) {
            return false;
        }
        boolean wasLast = codes.add(1L) != 0L;
        codes.giveTo(made);
        return wasLast || row.comparedWith(made) < 0;
    }

    private boolean isOrderSound(Row row) {
        cycleType.takeFrom(row);
        made.takePower(row, cycleType.leastCommonMultiple());
        return made.fixedThings() == row.size;
    }

    private boolean isExchangeSound(Row row) {
        tableaux.takeFrom(row);
        tableaux.giveExchanged(made);
        spare.takeInverse(row);
        return made.isSameAs(spare);
    }

    private boolean isGroupSound() {
        int product = 1;
        for (int number = 0; number < group.size; number++) {
            product *= group.thingsAt(number, number);
        }
        return product == group.count
                && group.count > 0
                && factorial(group.size) % group.count == 0;
    }

    private static int factorial(int number) {
        int product = 1;
        for (int factor = 2; factor <= number; factor++) {
            product *= factor;
        }
        return product;
    }

    private static int greatestDivisor(int number, int other) {
        for (int divisor = Math.min(number, other); divisor > 1; divisor--) {
            if (number % divisor == 0 && other % divisor == 0) {
                return divisor;
            }
        }
        return 1;
    }

    private static long powerOf(int base, int exponent) {
        long product = 1L;
        for (int factor = 0; factor < exponent; factor++) {
            product *= base;
        }
        return product;
    }

    /** An arrangement, or none while its size is 0. A row never takes from itself. */
    private static final class Row {
        int size = 0;
        final int[] things = new int[MOST_THINGS];

        void takeIdentity(int newSize) {
            size = newSize;
            for (int place = 0; place < size; place++) {
                things[place] = place;
            }
        }

        void takeCopy(Row other) {
            size = other.size;
            System.arraycopy(other.things, 0, things, 0, MOST_THINGS);
        }

        void takeProduct(Row left, Row right) {
            size = left.size;
            for (int place = 0; place < size; place++) {
                things[place] = left.things[right.things[place]];
            }
        }

        void takeInverse(Row other) {
            size = other.size;
            for (int place = 0; place < size; place++) {
                things[other.things[place]] = place;
            }
        }

        void takePower(Row base, long exponent) {
            size = base.size;
            for (int place = 0; place < size; place++) {
                long steps = Math.floorMod(exponent, (long) base.cycleLength(place));
                int thing = place;
                for (long step = 0L; step < steps; step++) {
                    thing = base.things[thing];
                }
                things[place] = thing;
            }
        }

        void takeConjugate(Row given, Row by) {
            size = given.size;
            for (int place = 0; place < size; place++) {
                things[by.things[place]] = by.things[given.things[place]];
            }
        }

        void takeSwap(Row other, int place, int otherPlace) {
            takeCopy(other);
            things[place] = other.things[otherPlace];
            things[otherPlace] = other.things[place];
        }

        void takeRotation(Row other, int distance) {
            size = other.size;
            for (int place = 0; place < size; place++) {
                int to = (place + Math.floorMod(distance, size)) % size;
                things[to] = other.things[place];
            }
        }

        void takeFlip(Row other, int many) {
            takeCopy(other);
            for (int place = 0; place < many; place++) {
                things[place] = other.things[many - 1 - place];
            }
        }

        void takeRiffle(Row other, boolean isOut) {
            size = other.size;
            int front = isOut ? (size + 1) / 2 : size / 2;
            for (int place = 0; place < size; place++) {
                boolean isFromFront = (place % 2 == 0) == isOut;
                things[place] = other.things[isFromFront ? place / 2 : front + place / 2];
            }
        }

        boolean isSameAs(Row other) {
            return size == other.size && comparedWith(other) == 0;
        }

        int comparedWith(Row other) {
            int shorter = Math.min(size, other.size);
            for (int place = 0; place < shorter; place++) {
                if (things[place] != other.things[place]) {
                    return things[place] < other.things[place] ? -1 : 1;
                }
            }
            return Integer.compare(size, other.size);
        }

        int fixedThings() {
            int fixed = 0;
            for (int place = 0; place < size; place++) {
                if (things[place] == place) {
                    fixed++;
                }
            }
            return fixed;
        }

        int cycleLength(int place) {
            int length = 1;
            for (int thing = things[place]; thing != place && length < size; thing = things[thing]) {
                length++;
            }
            return length;
        }

        boolean isLeastInCycle(int place) {
            int length = cycleLength(place);
            int thing = place;
            for (int step = 0; step < length; step++) {
                thing = things[thing];
                if (thing < place) {
                    return false;
                }
            }
            return true;
        }

        int leastSwaps() {
            int many = size;
            for (int place = 0; place < size; place++) {
                if (isLeastInCycle(place)) {
                    many--;
                }
            }
            return many;
        }

        int codeAt(int place) {
            int lesser = 0;
            for (int behind = place + 1; behind < size; behind++) {
                if (things[behind] < things[place]) {
                    lesser++;
                }
            }
            return lesser;
        }

        int sumOfCodes() {
            int sum = 0;
            for (int place = 0; place < size; place++) {
                sum += codeAt(place);
            }
            return sum;
        }

        int ascendingRuns() {
            int many = 1;
            for (int place = 1; place < size; place++) {
                if (things[place] < things[place - 1]) {
                    many++;
                }
            }
            return many;
        }
    }

    /** The one text. */
    private static final class Text {
        int length = 0;
        final char[] signs = new char[MOST_SIGNS];

        void clear() {
            length = 0;
        }

        void put(char sign) {
            if (length < MOST_SIGNS) {
                signs[length] = sign;
                length++;
            }
        }

        void putNumber(int number) {
            if (number >= 10) {
                put((char) ('0' + number / 10));
            }
            put((char) ('0' + number % 10));
        }

        void putRank(int[] digits) {
            int first = 0;
            while (first < digits.length - 1 && digits[first] == 0) {
                first++;
            }
            for (int place = first; place < digits.length; place++) {
                put((char) ('0' + digits[place]));
            }
        }

        void putCycles(Row row) {
            for (int place = 0; place < row.size; place++) {
                if (row.things[place] != place && row.isLeastInCycle(place)) {
                    putCycle(row, place);
                }
            }
        }

        private void putCycle(Row row, int from) {
            int cycleLength = row.cycleLength(from);
            int thing = from;
            for (int told = 0; told < cycleLength; told++) {
                put(told == 0 ? '(' : ' ');
                putNumber(thing);
                thing = row.things[thing];
            }
            put(')');
        }

        boolean isDigit(int place) {
            return place < length && signs[place] >= '0' && signs[place] <= '9';
        }

        int endOfDigits(int from) {
            int end = from;
            while (end < length && isDigit(end)) {
                end++;
            }
            return end;
        }

        /** The number told from one place up to another, or the bound if it is not below it. */
        int numberBelow(int bound, int from, int end) {
            int number = 0;
            for (int place = from; place < end; place++) {
                number = Math.min(bound, number * 10 + (signs[place] - '0'));
            }
            return number;
        }

        int firstDigit() {
            return length > 0 && (signs[0] == '+' || signs[0] == '-') ? 1 : 0;
        }

        boolean isNumber() {
            int first = firstDigit();
            return first < length && endOfDigits(first) == length;
        }

        void turnRound() {
            for (int place = 0; place < length / 2; place++) {
                char sign = signs[place];
                signs[place] = signs[length - 1 - place];
                signs[length - 1 - place] = sign;
            }
        }

        boolean isTurnLess(int turn, int other) {
            for (int place = 0; place < length; place++) {
                char sign = signs[(turn + place) % length];
                char otherSign = signs[(other + place) % length];
                if (sign != otherSign) {
                    return sign < otherSign;
                }
            }
            return false;
        }
    }

    /** Reads a text for cycles. */
    private static final class CycleReader {
        private static final int OUTSIDE = 0;
        private static final int NUMBER_DUE = 1;
        private static final int NUMBER_TOLD = 2;

        private int state = OUTSIDE;
        private int toldCycles = 0;
        /** A bit for each thing that was told. */
        private int toldThings = 0;
        private boolean isCycleEmpty = true;
        private int firstOfCycle = 0;
        private int lastOfCycle = 0;

        /** Lets a row become what the text tells; answers how many cycles, or -1 less the fault. */
        int readInto(Row row, Text text, int size) {
            row.takeIdentity(size);
            state = OUTSIDE;
            toldCycles = 0;
            toldThings = 0;
            int place = 0;
            while (place < text.length) {
                int end = state == NUMBER_DUE ? takeNumber(row, text, place) : takeSign(text, place);
                if (end <= place) {
                    return -1 - place;
                }
                place = end;
            }
            return state == OUTSIDE ? toldCycles : -1 - text.length;
        }

        /** The place behind the sign, or its own if it cannot stand there. */
        private int takeSign(Text text, int place) {
            char sign = text.signs[place];
            if (state == OUTSIDE && sign == '(') {
                isCycleEmpty = true;
                state = NUMBER_DUE;
                return place + 1;
            }
            if (state == NUMBER_TOLD && sign == ' ') {
                state = NUMBER_DUE;
                return place + 1;
            }
            if (state == NUMBER_TOLD && sign == ')') {
                toldCycles++;
                state = OUTSIDE;
                return place + 1;
            }
            return place;
        }

        /** The place behind the number, or that of its first sign if it cannot stand there. */
        private int takeNumber(Row row, Text text, int place) {
            int end = text.endOfDigits(place);
            int thing = text.numberBelow(row.size, place, end);
            if (end == place || thing >= row.size || ((toldThings >> thing) & 1) == 1) {
                return place;
            }
            toldThings |= 1 << thing;
            if (isCycleEmpty) {
                isCycleEmpty = false;
                firstOfCycle = thing;
                lastOfCycle = thing;
            }
            // The cycle is closed again behind each number, so that its ')' has nothing left to do.
            row.things[lastOfCycle] = thing;
            row.things[thing] = firstOfCycle;
            lastOfCycle = thing;
            state = NUMBER_TOLD;
            return end;
        }
    }

    /** What slots held ahead of the latest calls that are kept. */
    private static final class History {
        int count = 0;
        private int latest = 0;
        private final int[] keptSlots = new int[MOST_KEPT];
        private final Row[] keptRows = new Row[MOST_KEPT];

        History() {
            for (int call = 0; call < MOST_KEPT; call++) {
                keptRows[call] = new Row();
            }
        }

        void keep(int slot, Row row) {
            latest = (latest + 1) % MOST_KEPT;
            keptSlots[latest] = slot;
            keptRows[latest].takeCopy(row);
            count = Math.min(count + 1, MOST_KEPT);
        }

        int latestSlot() {
            return keptSlots[latest];
        }

        Row latestRow() {
            return keptRows[latest];
        }

        void dropLatest() {
            latest = (latest + MOST_KEPT - 1) % MOST_KEPT;
            count--;
        }
    }

    /** The codes of an arrangement: read as figures to the bases size, size - 1, .., 1 they are its rank. */
    private static final class Codes {
        /** The rank's decimal digits, with '0' ahead, once they are filled in. */
        final int[] digits = new int[MOST_DIGITS];
        private int size = 0;
        private final int[] figures = new int[MOST_THINGS];

        void clear(int newSize) {
            size = newSize;
            Arrays.fill(figures, 0);
        }

        void takeFrom(Row row) {
            clear(row.size);
            for (int place = 0; place < size; place++) {
                figures[place] = row.codeAt(place);
            }
        }

        void giveTo(Row row) {
            row.size = size;
            int left = (1 << size) - 1;
            for (int place = 0; place < size; place++) {
                int thing = leastButMany(left, figures[place]);
                row.things[place] = thing;
                left &= ~(1 << thing);
            }
        }

        private static int leastButMany(int left, int many) {
            int lesser = 0;
            for (int thing = 0; thing < MOST_THINGS; thing++) {
                if (((left >> thing) & 1) == 1) {
                    if (lesser == many) {
                        return thing;
                    }
                    lesser++;
                }
            }
            return 0;
        }

        /** Adds to the rank; answers how often it passed the last one, below 0 backwards. */
        long add(long by) {
            long carry = by;
            for (int place = size - 1; place >= 0; place--) {
                long base = size - place;
                long figure = figures[place] + Math.floorMod(carry, base);
                carry = Math.floorDiv(carry, base);
                if (figure >= base) {
                    figure -= base;
                    carry++;
                }
                figures[place] = (int) figure;
            }
            return carry;
        }

        /** Puts a decimal digit behind the rank; answers whether there still is such a rank. */
        private boolean takeDigit(int digit) {
            int carry = digit;
            for (int place = size - 1; place >= 0; place--) {
                int base = size - place;
                int figure = figures[place] * 10 + carry;
                figures[place] = figure % base;
                carry = figure / base;
            }
            return carry == 0;
        }

        boolean takeDigits(int newSize) {
            clear(newSize);
            for (int place = 0; place < MOST_DIGITS; place++) {
                if (!takeDigit(digits[place])) {
                    return false;
                }
            }
            return true;
        }

        /** Takes the number that the text is; answers whether it is a rank of the size. */
        boolean takeRank(Text text, int newSize) {
            clear(newSize);
            boolean isBelow0 = text.signs[0] == '-';
            for (int place = text.firstDigit(); place < text.length; place++) {
                int digit = text.signs[place] - '0';
                if ((isBelow0 && digit != 0) || !takeDigit(digit)) {
                    return false;
                }
            }
            return true;
        }

        /** Takes the codes that the text tells; answers its fault, or -1. */
        int takeSigns(Text text, int newSize) {
            clear(newSize);
            for (int place = 0; place < text.length; place++) {
                if (place >= size || figureOf(text.signs[place]) >= size - place) {
                    return place;
                }
                figures[place] = figureOf(text.signs[place]);
            }
            return text.length < size ? text.length : -1;
        }

        private static int figureOf(char sign) {
            if (sign >= '0' && sign <= '9') {
                return sign - '0';
            }
            return sign >= 'a' && sign <= 'n' ? sign - 'a' + 10 : MOST_THINGS;
        }

        /** Fills the digits in from the last one on; the codes are used up by it. */
        void fillDigits() {
            for (int place = MOST_DIGITS - 1; place >= 0; place--) {
                digits[place] = divideByTen();
            }
        }

        private int divideByTen() {
            int rest = 0;
            for (int place = 0; place < size; place++) {
                int dividend = rest * (size - place) + figures[place];
                figures[place] = dividend / 10;
                rest = dividend % 10;
            }
            return rest;
        }
    }

    /** The two tableaux of an arrangement. */
    private static final class Tableaux {
        final int[] lengths = new int[MOST_THINGS];
        final int[][] insertion = new int[MOST_THINGS][MOST_THINGS];
        final int[][] recording = new int[MOST_THINGS][MOST_THINGS];
        private int size = 0;

        void takeFrom(Row row) {
            size = row.size;
            Arrays.fill(lengths, 0);
            for (int place = 0; place < size; place++) {
                insert(row.things[place], place);
            }
        }

        private void insert(int thing, int place) {
            int coming = thing;
            for (int row = 0; row < size; row++) {
                int column = placeOfGreater(row, coming);
                int pushed = insertion[row][column];
                insertion[row][column] = coming;
                if (column == lengths[row]) {
                    recording[row][column] = place;
                    lengths[row]++;
                    return;
                }
                coming = pushed;
            }
        }

        private int placeOfGreater(int row, int thing) {
            int column = 0;
            while (column < lengths[row] && insertion[row][column] < thing) {
                column++;
            }
            return column;
        }

        /** Lets a row become what has these tableaux exchanged; they are used up by it. */
        void giveExchanged(Row row) {
            row.size = size;
            for (int place = size - 1; place >= 0; place--) {
                row.things[place] = takeOut(rowThatEndsWith(place));
            }
        }

        private int rowThatEndsWith(int number) {
            for (int row = 0; row < size; row++) {
                if (lengths[row] > 0 && insertion[row][lengths[row] - 1] == number) {
                    return row;
                }
            }
            return -1;
        }

        /** Undoes the coming in that grew a row; answers what came in then. */
        private int takeOut(int grownRow) {
            if (grownRow < 0 || lengths[grownRow] == 0) {
                return 0;
            }
            lengths[grownRow]--;
            int leaving = recording[grownRow][lengths[grownRow]];
            for (int row = grownRow - 1; row >= 0; row--) {
                leaving = pushBack(row, leaving);
            }
            return leaving;
        }

        private int pushBack(int row, int thing) {
            for (int column = lengths[row] - 1; column >= 0; column--) {
                if (recording[row][column] < thing) {
                    int leaving = recording[row][column];
                    recording[row][column] = thing;
                    return leaving;
                }
            }
            return thing;
        }
    }

    /** How many cycles of each length an arrangement has. */
    private static final class CycleType {
        final int[] many = new int[MOST_THINGS + 1];

        void takeFrom(Row row) {
            Arrays.fill(many, 0);
            for (int place = 0; place < row.size; place++) {
                if (row.isLeastInCycle(place)) {
                    many[row.cycleLength(place)]++;
                }
            }
        }

        boolean isSameAs(CycleType other) {
            for (int length = 1; length <= MOST_THINGS; length++) {
                if (many[length] != other.many[length]) {
                    return false;
                }
            }
            return true;
        }

        int leastCommonMultiple() {
            int multiple = 1;
            for (int length = 1; length <= MOST_THINGS; length++) {
                if (many[length] > 0) {
                    multiple = multiple / greatestDivisor(multiple, length) * length;
                }
            }
            return multiple;
        }

        boolean isPower(int exponent) {
            for (int length = 1; length <= MOST_THINGS; length++) {
                if (many[length] % leastBundle(length, exponent) != 0) {
                    return false;
                }
            }
            return true;
        }

        /**
         * The least number of cycles of a length into which the power breaks a single cycle. Whatever other
         * number it breaks one into is a multiple of it, so that just its multiples can come out.
         */
        private static int leastBundle(int length, int exponent) {
            for (int bundle = 1; bundle < exponent; bundle++) {
                if (greatestDivisor(length * bundle, exponent) == bundle) {
                    return bundle;
                }
            }
            return exponent;
        }
    }

    /**
     * All products of some generators of one size, at most 7, in the order of their shortest words. A
     * member is one number, of three bits for the thing at each place.
     */
    private static final class Walk {
        private static final int BITS = 3;
        private static final int MASK = 7;
        private static final int MOST_LETTERS = 5;

        int size = 0;
        int count = 0;
        private final int[][] generators = new int[MOST_LETTERS][MOST_GROUPED];
        private final int[] members;
        /** For each rank 1 more than the number of the member, 0 if it is none. */
        private final int[] numbers;
        /** For each member the number of the one that its word has without the last letter. */
        private final int[] parents;
        private final int[] lastLetters;

        Walk(int mostMembers) {
            members = new int[mostMembers];
            numbers = new int[mostMembers];
            parents = new int[mostMembers];
            lastLetters = new int[mostMembers];
        }

        void takeGenerator(int letter, Row row) {
            System.arraycopy(row.things, 0, generators[letter], 0, MOST_GROUPED);
        }

        /** Reaches all products; short words come ahead of long ones, and those of one length by letters. */
        void spread(int newSize, int letters) {
            size = newSize;
            count = 0;
            Arrays.fill(numbers, 0);
            reach(identityOf(newSize), 0, 0);
            for (int from = 0; from < count && from < members.length; from++) {
                for (int letter = 0; letter < letters; letter++) {
                    reach(product(members[from], generators[letter]), from, letter);
                }
            }
        }

        private void reach(int member, int parent, int letter) {
            int rank = rankOf(member);
            if (numbers[rank] == 0) {
                members[count] = member;
                parents[count] = parent;
                lastLetters[count] = letter;
                count++;
                numbers[rank] = count;
            }
        }

        private static int identityOf(int places) {
            int packed = 0;
            for (int place = 0; place < places; place++) {
                packed |= place << (BITS * place);
            }
            return packed;
        }

        private static int thingAt(int member, int place) {
            return (member >> (BITS * place)) & MASK;
        }

        private int product(int left, int[] right) {
            int packed = 0;
            for (int place = 0; place < size; place++) {
                packed |= thingAt(left, right[place]) << (BITS * place);
            }
            return packed;
        }

        private int rankOf(int member) {
            int left = (1 << size) - 1;
            int rank = 0;
            for (int place = 0; place < size; place++) {
                int thing = 1 << thingAt(member, place);
                rank = rank * (size - place) + Integer.bitCount(left & (thing - 1));
                left &= ~thing;
            }
            return rank;
        }

        /** The number of the member that a row of this size is, or -1. */
        int numberOf(Row row) {
            int packed = 0;
            for (int place = 0; place < size; place++) {
                packed |= row.things[place] << (BITS * place);
            }
            return numbers[rankOf(packed)] - 1;
        }

        int wordLength(int number) {
            int length = 0;
            for (int at = number; at > 0 && length < count; at = parents[at]) {
                length++;
            }
            return length;
        }

        void putWord(int number, Text text) {
            int length = wordLength(number);
            int at = number;
            text.clear();
            for (int letter = 0; letter < length; letter++) {
                text.put((char) ('a' + lastLetters[at]));
                at = parents[at];
            }
            text.turnRound();
        }

        /** How many things stand at a place in the members that fix all things below a number. */
        int thingsAt(int place, int number) {
            int mask = maskBelow(number);
            int fixed = identityOf(number);
            int things = 0;
            for (int at = 0; at < count; at++) {
                if ((members[at] & mask) == fixed) {
                    things |= 1 << thingAt(members[at], place);
                }
            }
            return Integer.bitCount(things);
        }

        int membersFixing(int number) {
            int mask = maskBelow(number);
            int fixed = identityOf(number);
            int fixing = 0;
            for (int at = 0; at < count; at++) {
                if ((members[at] & mask) == fixed) {
                    fixing++;
                }
            }
            return fixing;
        }

        private static int maskBelow(int number) {
            return (1 << (BITS * number)) - 1;
        }
    }

    /** Looks for a pattern of at most five things. */
    private static final class PatternSearch {
        private final int[] chosen = new int[MOST_PATTERN];

        boolean isFound(Row row, Row pattern) {
            return isFoundBehind(row, pattern, chosen, 0, 0);
        }

        /** Whether the places chosen so far can be gone on with to the whole pattern, from a place on. */
        private static boolean isFoundBehind(Row row, Row pattern, int[] chosen, int depth, int from) {
            if (depth >= pattern.size || depth >= chosen.length) {
                return true;
            }
            for (int place = from; place < row.size; place++) {
                chosen[depth] = place;
                if (isOrderedAlike(row, pattern, chosen, depth)
                        && isFoundBehind(row, pattern, chosen, depth + 1, place + 1)) {
                    return true;
                }
            }
            return false;
        }

        private static boolean isOrderedAlike(Row row, Row pattern, int[] chosen, int depth) {
            for (int earlier = 0; earlier < depth; earlier++) {
                boolean isLess = row.things[chosen[earlier]] < row.things[chosen[depth]];
                if (isLess != (pattern.things[earlier] < pattern.things[depth])) {
                    return false;
                }
            }
            return true;
        }
    }
}
