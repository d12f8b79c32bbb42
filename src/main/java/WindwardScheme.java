import java.util.NoSuchElementException;

/**
 * A small Scheme whose programs are data, laid by calls or read from text, and run by units of fuel.
 *
 * <p>What programs make is put behind what was made before and never taken away: each application takes a few words, and
 * there is room for all applications of 512 calls. So nothing is held that can be found again, see History and Finder.
 */
public final class WindwardScheme {
    // The limits of the document.
    private static final int MAX_DATA = 3000;
    private static final int MAX_LAID_DEPTH = 60;
    private static final int MAX_MADE_DEPTH = 100;
    private static final int MAX_SIZE = 3000;
    private static final int MAX_AMOUNT = 1000000000;
    private static final int MAX_TEXT = 500;
    private static final int MAX_FUEL = 500;
    private static final int MAX_FORMS_AROUND = 100;
    private static final int MAX_EXPANSIONS = 200;
    private static final int SYMBOLS = 60;

    // The symbols that mean something from the first.
    private static final int QUOTE_SYMBOL = 0;
    private static final int IF_SYMBOL = 1;
    private static final int LAMBDA_SYMBOL = 2;
    private static final int DEFINE_SYMBOL = 3;
    private static final int SET_SYMBOL = 4;
    private static final int BEGIN_SYMBOL = 5;
    private static final int SYNTAX_SYMBOL = 6;
    private static final int ELLIPSIS_SYMBOL = 7;
    private static final int BLANK_SYMBOL = 8;
    private static final int FIRST_PRIMITIVE = 10;
    private static final int LAST_PRIMITIVE = 29;

    // What a symbol can be.
    private static final int UNKNOWN = 0;
    private static final int KEYWORD = 1;
    private static final int MACRO = 2;
    private static final int VARIABLE = 3;

    // A value is a word that tells all of it, or where the rest of it is, so that two values are the same if their words are.
    // Its lowest bits tell what it is; the word 0 is no value.
    private static final int VALUE_BITS = 3;
    private static final int VALUE_MASK = 7;
    private static final int NUMBER = 1; // numerator and a half of 2 to the 31st, denominator
    private static final int ATOM = 2; // see below
    private static final int PAIR = 3; // where it is in the log; or LAID and the number of a datum
    private static final int CLOSURE = 4; // place of its lambda, activation around, interval
    private static final int VIEW = 5; // activation, place among its arguments, how many there are
    private static final int QUOTED = 6; // place in the image of a program, program
    private static final int CONTINUATION = 7; // where it is in the log
    private static final int NUMERATOR_BITS = 31;
    private static final long HALF = 1L << 30;
    private static final long LAID = 1L << 28;
    private static final int COUNT_BITS = 20; // of a place among arguments, and how many there are
    private static final int COUNT_MASK = (1 << 20) - 1;
    // Atoms: their kind, and from ATOM_SHIFT on a number.
    private static final int ATOM_SHIFT = 8;
    private static final int SYMBOL_ATOM = ATOM;
    private static final int TRUTH_ATOM = ATOM | 1 << VALUE_BITS;
    private static final int PRIMITIVE_ATOM = ATOM | 4 << VALUE_BITS;
    private static final int ATOM_MASK = (1 << ATOM_SHIFT) - 1;
    private static final long FALSE = TRUTH_ATOM;
    private static final long TRUE = TRUTH_ATOM | 1 << ATOM_SHIFT;
    private static final long EMPTY = ATOM | 2 << VALUE_BITS;
    private static final long NOTHING = ATOM | 3 << VALUE_BITS;

    // What a slot of code holds, by its lowest bits. A place is that of a slot in the image of a program.
    private static final int CALL = 0; // where its slots are
    private static final int BRANCH = 1; // where its slots are
    private static final int SEQUENCE = 2; // where its slots are
    private static final int OTHER = 3; // where the node is
    private static final int CONSTANT = 4; // number of a datum
    private static final int QUOTATION = 5; // a datum in the image: see Store
    private static final int LOCAL = 6; // variable of its lambda, how many environments out
    private static final int GLOBAL = 7; // symbol
    private static final int TAG_MASK = 7;
    private static final int ACTIVE = 8; // it is evaluated by its parts
    private static final int SLOT_SHIFT = 4;
    private static final int VARIABLE_MASK = 4095; // place among the parameters, and REST for the one that takes the rest
    private static final int REST = 2048;
    private static final int DEPTH_OUT_SHIFT = 16;

    // The nodes of code, by their first number. Ahead of slots and nodes of forms that wait for parts are the slot of the form
    // around, and which of its slots this is, with how many slots it has itself above.
    private static final int LAMBDA = 0; // twice the parameters and 1 for a rest, which are set; the slots of the body
    private static final int SET_LOCAL = 2; // variable, slot
    private static final int SET_GLOBAL = 3; // symbol, slot
    private static final int DEFINITION = 4; // symbol, slot
    private static final int SYNTAX = 5; // symbol
    private static final int BODY_PLACE = 2; // of the slots in a lambda; nothing is around them, as its first number is 0
    private static final int SETS_SHIFT = 20; // some of the variables of the lambda at such places are set somewhere
    private static final int SETS_BITS = 6;
    private static final int SETS_MASK = 63;
    private static final int INDEX_MASK = 4095;
    private static final int SLOTS_SHIFT = 12;

    // The room: blocks of words for the history, for images of programs, and for what is at hand in an expansion.
    private static final int BLOCK_BITS = 9;
    private static final int BLOCK_WORDS = 512;
    private static final int BLOCK_MASK = BLOCK_WORDS - 1;
    private static final int MOST_BLOCKS = 11900;
    private static final int MOST_OF_HISTORY = 8500; // the others are enough for the largest expansion
    private static final int BLOCKS_OF_CACHE = 512; // of what is remembered; more of them count as those of the history
    private static final int BLOCKS_OF_FORM = 200; // that a form and its expansion take at most

    // How many bits name an interval, a place in an image, a place in the log or what waits, and a program.
    private static final int INTERVAL_BITS = 19;
    private static final int INTERVAL_MASK = (1 << 19) - 1;
    private static final int OFFSET_BITS = 21;
    private static final int OFFSET_MASK = (1 << 21) - 1;
    private static final int LINK_BITS = 24;
    private static final int LINK_MASK = (1 << 24) - 1;
    private static final int MAX_PROGRAMS = 512; // no more can be begun by the calls of an object

    // Other things than bodies that wait are in the log: kind, what waits behind, subject; and another word.
    private static final int HANDLER_FRAME = 1; // handlers to come back to
    private static final int PROMPT_FRAME = 2; // continuation of the prompt; handler
    private static final int BEFORE_FRAME = 3; // wind; during
    private static final int DURING_FRAME = 4; // wind
    private static final int AFTER_FRAME = 5; // nothing; value
    private static final int JUMP_FRAME = 6; // goal; innermost wind that stays
    private static final int ENTER_FRAME = 7; // goal; wind to be entered
    private static final int FRAME_BITS = 4;
    private static final int FRAME_MASK = 15;

    // Bounds of loops and recursions that no run comes near to.
    private static final long MAX_TURNS = 1L << 50;
    private static final int MAX_STEPS = 2000000000;
    private static final int MAX_LEVEL = 104;
    private static final int LEVELS = 128;

    private final Store store;
    private final Text text;
    private final Expander expander;
    private final Machine machine;

    public WindwardScheme() {
        Area room = new Area(null, MOST_BLOCKS);
        Store laid = new Store(room);
        History history = new History(room);
        Settings settings = new Settings(room, history);
        Finder finder = new Finder(room, laid, history, settings);
        store = laid;
        text = new Text(laid, finder);
        expander = new Expander(room, laid);
        machine = new Machine(room, laid, history, settings, finder);
    }

    // ---- data

    public int number(int numerator, int denominator) throws IllegalArgumentException, IllegalStateException {
        long value = fraction(numerator, denominator);
        if (value == 0) {
            throw new IllegalArgumentException("the denominator is 0, or the number is out of range");
        }
        countCall();
        return needLaid(store.lay(value));
    }

    public int symbol(int symbol) throws IllegalArgumentException, IllegalStateException {
        needSymbol(symbol);
        countCall();
        return needLaid(store.lay(symbolValue(symbol)));
    }

    public int truth(boolean isTrue) throws IllegalStateException {
        countCall();
        return needLaid(store.lay(isTrue ? TRUE : FALSE));
    }

    public int empty() throws IllegalStateException {
        countCall();
        return needLaid(store.lay(EMPTY));
    }

    public int pair(int first, int rest) throws IndexOutOfBoundsException, IllegalStateException {
        needDatum(first);
        needDatum(rest);
        countCall();
        return needLaid(store.layPair(first, rest));
    }

    public int data() {
        return store.count;
    }

    public char kind(int datum) throws IndexOutOfBoundsException {
        needDatum(datum);
        return letterOf(store.valueOf(datum));
    }

    public int part(int datum, boolean isFirst) throws IndexOutOfBoundsException, UnsupportedOperationException {
        needDatum(datum);
        if (!store.isLaidPair(datum)) {
            throw new UnsupportedOperationException("no pair");
        }
        return isFirst ? store.firstOf(datum) : store.restOf(datum);
    }

    public long amount(int datum) throws IndexOutOfBoundsException, UnsupportedOperationException {
        needDatum(datum);
        long value = store.valueOf(datum);
        char letter = letterOf(value);
        if (letter != 'n' && letter != 's' && letter != 't') {
            throw new UnsupportedOperationException("neither a number nor a name nor a truth");
        }
        return letter == 'n' ? numeratorOf(value) : atomNumber(value);
    }

    public double asDouble(int datum) throws IndexOutOfBoundsException, UnsupportedOperationException {
        needDatum(datum);
        long value = store.valueOf(datum);
        long denominator = denominatorOf(value);
        if (letterOf(value) != 'n' || denominator == 0) {
            throw new UnsupportedOperationException("no number");
        }
        return (double) numeratorOf(value) / (double) denominator;
    }

    public boolean areAlike(int datum, int other) throws IndexOutOfBoundsException {
        needDatum(datum);
        needDatum(other);
        return store.haveOneShape(datum, other, 0);
    }

    // ---- text

    public int write(int datum) throws IndexOutOfBoundsException, UnsupportedOperationException {
        needDatum(datum);
        text.start(false, store.valueOf(datum));
        text.goOn();
        return needWritten(text.finish());
    }

    public int writeExpanded(int datum)
            throws IndexOutOfBoundsException, IllegalArgumentException, UnsupportedOperationException {
        needDatum(datum);
        store.setProgram(0, datum);
        if (!expander.expand(0, false)) {
            throw new IllegalArgumentException("the program is wrong");
        }
        text.start(true, store.word(0, store.rootOf(0) + BODY_PLACE));
        text.goOn();
        return needWritten(text.finish());
    }

    public char charAt(int index) throws IndexOutOfBoundsException {
        if (index < 0 || index >= text.length) {
            throw new IndexOutOfBoundsException("no such place in the text");
        }
        return text.signAt(index);
    }

    public int type(char character) throws IllegalArgumentException, IllegalStateException {
        if (character < 32 || character > 126) {
            throw new IllegalArgumentException("the character is out of range");
        }
        if (text.length >= MAX_TEXT) {
            throw new IllegalStateException("the text is full");
        }
        countCall();
        return text.append(character);
    }

    public int clear() {
        return text.forget();
    }

    public int read() throws IllegalArgumentException, IllegalStateException {
        if (!text.isDatum()) {
            throw new IllegalArgumentException("the text is no datum");
        }
        if (text.needed > MAX_DATA - store.count) {
            throw new IllegalStateException("there would be too many data");
        }
        return needLaid(text.layAll());
    }

    // ---- running

    public char begin(int datum) throws IndexOutOfBoundsException {
        needDatum(datum);
        countCall();
        machine.stop();
        int program = store.newProgram(datum);
        boolean isRight = program != 0 && expander.expand(program, true);
        machine.count(Machine.EXPANSIONS, program == 0 ? 0 : expander.used);
        return machine.start(isRight ? program : 0, program == 0 ? 'o' : expander.letter);
    }

    public char run(int fuel) throws IllegalStateException, IllegalArgumentException {
        needBegun();
        if (fuel < 1 || fuel > MAX_FUEL) {
            throw new IllegalArgumentException("the number of applications is out of range");
        }
        countCall();
        machine.refuel(fuel);
        int wanted = machine.goOn();
        for (int i = 0; i < MAX_STEPS && wanted != 0; i++) {
            machine.takeProgram(expander.expand(wanted, false));
            wanted = machine.goOn();
        }
        return machine.stateNow();
    }

    public char state() throws IllegalStateException {
        needBegun();
        return machine.stateNow();
    }

    public char valueKind() throws IllegalStateException, NoSuchElementException {
        needValue();
        return letterOf(machine.result());
    }

    public long valueAmount() throws IllegalStateException, NoSuchElementException, UnsupportedOperationException {
        needValue();
        if (letterOf(machine.result()) != 'n') {
            throw new UnsupportedOperationException("the value is no number");
        }
        return numeratorOf(machine.result());
    }

    public int writeValue() throws IllegalStateException, NoSuchElementException, UnsupportedOperationException {
        needValue();
        text.start(false, machine.result());
        int wanted = text.goOn();
        for (int i = 0; i < MAX_STEPS && wanted != 0; i++) {
            text.takeProgram(expander.expand(wanted, false));
            wanted = text.goOn();
        }
        return needWritten(text.finish());
    }

    public char error() throws IllegalStateException, NoSuchElementException {
        needBegun();
        if (machine.stateNow() != 'e') {
            throw new NoSuchElementException("the run did not end with an error");
        }
        return machine.letter();
    }

    public int winds() throws IllegalStateException {
        needBegun();
        return machine.countOfWinds();
    }

    public int handlers() throws IllegalStateException {
        needBegun();
        return machine.countOfHandlers();
    }

    public int writeGlobal(int symbol)
            throws IllegalArgumentException, NoSuchElementException, UnsupportedOperationException {
        needSymbol(symbol);
        long global = store.globalValue(symbol);
        if (global == 0) {
            throw new NoSuchElementException("no global variable with a value");
        }
        text.start(false, global);
        int wanted = text.goOn();
        for (int i = 0; i < MAX_STEPS && wanted != 0; i++) {
            text.takeProgram(expander.expand(wanted, false));
            wanted = text.goOn();
        }
        return needWritten(text.finish());
    }

    public char meaning(int symbol) throws IllegalArgumentException {
        needSymbol(symbol);
        switch (store.meaningOf(symbol)) {
            case KEYWORD:
                return 'k';
            case MACRO:
                return 'm';
            case VARIABLE:
                return 'v';
            default:
                return '-';
        }
    }

    // ---- counts

    public long applications() {
        return machine.tally(Machine.APPLICATIONS);
    }

    public int expansions() {
        return (int) machine.tally(Machine.EXPANSIONS);
    }

    public int entered() {
        return (int) machine.tally(Machine.ENTERED);
    }

    public int left() {
        return (int) machine.tally(Machine.LEFT);
    }

    public int jumps() {
        return (int) machine.tally(Machine.JUMPS);
    }

    public float valueShare() throws ArithmeticException {
        needEnded();
        return (float) machine.tally(Machine.ENDED_WITH_VALUE) / (float) machine.tally(Machine.ENDED);
    }

    public double meanApplications() throws ArithmeticException {
        needEnded();
        return (double) machine.tally(Machine.APPLICATIONS_OF_ENDED) / (double) machine.tally(Machine.ENDED);
    }

    public boolean isSound() {
        long around = machine.tally(Machine.ENTERED) - machine.tally(Machine.LEFT);
        return store.areDataSound() && around == machine.tally(Machine.ABANDONED) + machine.countOfWinds();
    }

    // ---- what the calls need

    /** Counts a call: the fewer are left, the less room the applications need that may still come. */
    private void countCall() {
        machine.count(Machine.CALLS_OF_OBJECT, 1);
    }

    private void needDatum(int datum) {
        if (!store.has(datum)) {
            throw new IndexOutOfBoundsException("no such datum");
        }
    }

    private void needSymbol(int symbol) {
        if (symbol < 0 || symbol >= SYMBOLS) {
            throw new IllegalArgumentException("no such symbol");
        }
    }

    private static int needLaid(int datum) {
        if (datum < 0) {
            throw new IllegalStateException("the datum cannot be laid");
        }
        return datum;
    }

    private static int needWritten(int length) {
        if (length < 0) {
            throw new UnsupportedOperationException("the text would be too long");
        }
        return length;
    }

    private void needBegun() {
        if (!machine.isBegun()) {
            throw new IllegalStateException("no program was begun");
        }
    }

    private void needValue() {
        needBegun();
        if (machine.letter() != 'v') {
            throw new NoSuchElementException("the run did not end with a value");
        }
    }

    private void needEnded() {
        if (machine.tally(Machine.ENDED) == 0) {
            throw new ArithmeticException("no run has ended");
        }
    }

    // ---- rows, and what values tell by themselves

    private static int at(int[] row, int index) {
        return index >= 0 && index < row.length ? row[index] : 0;
    }

    private static void put(int[] row, int index, int number) {
        if (index >= 0 && index < row.length) {
            row[index] = number;
        }
    }

    private static long wordAt(long[] row, int index) {
        return index >= 0 && index < row.length ? row[index] : 0;
    }

    private static void putWord(long[] row, int index, long word) {
        if (index >= 0 && index < row.length) {
            row[index] = word;
        }
    }

    private static int tagOf(long value) {
        return (int) value & VALUE_MASK;
    }

    private static long symbolValue(int symbol) {
        return SYMBOL_ATOM | (long) symbol << ATOM_SHIFT;
    }

    private static long primitiveValue(int symbol) {
        return PRIMITIVE_ATOM | (long) symbol << ATOM_SHIFT;
    }

    private static boolean isPrimitive(long value) {
        return ((int) value & ATOM_MASK) == PRIMITIVE_ATOM;
    }

    private static int atomNumber(long value) {
        return (int) (value >>> ATOM_SHIFT);
    }

    private static long numeratorOf(long value) {
        return (value >>> VALUE_BITS & (1L << NUMERATOR_BITS) - 1) - HALF;
    }

    private static long denominatorOf(long value) {
        return value >>> VALUE_BITS + NUMERATOR_BITS;
    }

    /** The greatest common divisor of two numbers that are not both 0. */
    private static long commonDivisor(long one, long other) {
        long a = one < 0 ? -one : one;
        long b = other < 0 ? -other : other;
        for (int i = 0; i < 200 && b != 0; i++) {
            long remainder = a % b;
            a = b;
            b = remainder;
        }
        return a == 0 ? 1 : a;
    }

    /** A number in lowest terms; 0 if there is none or it is out of range. */
    private static long fraction(long numerator, long denominator) {
        if (denominator == 0) {
            return 0;
        }
        long divisor = commonDivisor(numerator, denominator);
        long signed = denominator < 0 ? -divisor : divisor;
        if (signed == 0) {
            return 0;
        }
        long top = numerator / signed;
        long bottom = denominator / signed;
        if (top < -MAX_AMOUNT || top > MAX_AMOUNT || bottom > MAX_AMOUNT) {
            return 0;
        }
        return NUMBER | top + HALF << VALUE_BITS | bottom << VALUE_BITS + NUMERATOR_BITS;
    }

    private static boolean isInLowestTerms(long value) {
        long numerator = numeratorOf(value);
        long denominator = denominatorOf(value);
        return denominator >= 1
                && denominator <= MAX_AMOUNT
                && numerator >= -MAX_AMOUNT
                && numerator <= MAX_AMOUNT
                && commonDivisor(numerator, denominator) == 1;
    }

    private static boolean isPairValue(long value) {
        int tag = tagOf(value);
        return tag == PAIR || tag == VIEW || tag == QUOTED;
    }

    private static char letterOf(long value) {
        switch (tagOf(value)) {
            case NUMBER:
                return 'n';
            case PAIR:
            case VIEW:
            case QUOTED:
                return 'p';
            case CLOSURE:
                return 'c';
            case CONTINUATION:
                return 'k';
            default:
                return letterOfAtom(value);
        }
    }

    private static char letterOfAtom(long value) {
        switch ((int) value & ATOM_MASK) {
            case SYMBOL_ATOM:
                return 's';
            case TRUTH_ATOM:
                return 't';
            case PRIMITIVE_ATOM:
                return 'f';
            default:
                return value == EMPTY ? 'e' : 'u';
        }
    }

    /** Words in blocks that come from a common room and go back to it; outside of them there are zeros. */
    private static final class Area {
        private final Area room; // that gives the blocks; the room itself has none, and holds those that are free
        private final int most;
        private long[][] blocks;
        private int count;
        private int made; // by the room

        Area(Area room, int most) {
            this.room = room;
            this.most = most;
            blocks = new long[4][];
        }

        long get(int index) {
            int place = index >> BLOCK_BITS;
            if (place < 0 || place >= blocks.length) {
                return 0;
            }
            long[] block = blocks[place];
            int inside = index & BLOCK_MASK;
            return block == null || inside >= block.length ? 0 : block[inside];
        }

        void put(int index, long word) {
            int place = index >> BLOCK_BITS;
            if (place < 0 || place >= blocks.length) {
                return;
            }
            long[] block = blocks[place];
            int inside = index & BLOCK_MASK;
            if (block != null && inside < block.length) {
                block[inside] = word;
            }
        }

        /** The block in which a word is; null if there is none. */
        long[] blockAt(int index) {
            int place = index >> BLOCK_BITS;
            return place < 0 || place >= blocks.length ? null : blocks[place];
        }

        int words() {
            return count << BLOCK_BITS;
        }

        int countOfBlocks() {
            return count;
        }

        /** How many blocks the room can still give. */
        int spare() {
            return count + most - made;
        }

        /** Lets there be so many words; whether there are. */
        boolean reach(int words) {
            for (int i = count; i < most && count << BLOCK_BITS < words; i++) {
                long[] block = room == null ? null : room.taken();
                if (block == null) {
                    return false;
                }
                add(block);
            }
            return count << BLOCK_BITS >= words;
        }

        /** Gives the blocks back that are not needed for so many words. */
        void cut(int words) {
            int left = Math.min(count, words + BLOCK_MASK >> BLOCK_BITS);
            for (int i = left; i < count && i < blocks.length && room != null; i++) {
                room.add(blocks[i]);
                blocks[i] = null;
            }
            count = left;
        }

        private void add(long[] block) {
            if (count >= blocks.length) {
                long[][] more = new long[4 * count][];
                for (int i = 0; i < blocks.length; i++) {
                    more[i] = blocks[i];
                }
                blocks = more;
            }
            if (count >= 0 && count < blocks.length) {
                blocks[count] = block;
                count++;
            }
        }

        /** A block with zeros; null if there is none left. */
        private long[] taken() {
            if (count > 0 && count <= blocks.length) {
                count--;
                long[] block = blocks[count];
                blocks[count] = null;
                for (int i = 0; block != null && i < block.length; i++) {
                    block[i] = 0;
                }
                return block;
            }
            if (made >= most) {
                return null;
            }
            made++;
            return new long[BLOCK_WORDS];
        }
    }

    /**
     * The laid data, the global variables and macros, and the code of programs.
     *
     * <p>Of a program only its datum is kept, and what symbols meant when it was begun: its code, and the data that macros
     * made in it, are an image, which is made anew when it is wanted and was given up for others. An offset is a place in an
     * image; slots, each list of them with a 0 behind it, and nodes are what code is made of. A datum in an image is four
     * times the number of a laid one, or four times a symbol and 1, or four times the offset of a pair and 2; a pair is two
     * of these. Program 0 is one that is only written.
     */
    private static final class Store {
        static final int DATUM_BITS = 2;
        static final int SYMBOL_DATUM = 1;
        static final int PAIR_DATUM = 2;
        private static final int MAX_CHANGES = 100000;
        private static final int MOST_OF_IMAGE = 4096; // blocks
        private static final int FEW_BLOCKS = 600;
        private static final int MOST_AT_HAND = 310000; // words
        private static final int FEW_AT_HAND = 24; // blocks
        private static final int DEPTH_SHIFT = 12;
        private static final int SIZE_MASK = 4095;
        private static final int MEASURE_OF_ONE = 1 << DEPTH_SHIFT | 1;

        private final Area room;
        private final long[] values;
        private final int[] firsts;
        private final int[] rests;
        private final int[] measures;
        int count;
        private final int[] meanings;
        private final long[] contents;
        // What symbols came to be that are or were a keyword or macro: symbol, meaning, rules.
        private final Area changes;
        private int changeCount;
        private int programs;
        private final int[] programData;
        private final int[] programChanges;
        private final int[] roots; // where the lambda is in the image that has the program as its body
        private final int[] ends; // of images; 0 if there is none
        private final Area[] images;
        private int mostOfImages; // blocks that are held if there is no need of more
        private int drops;
        private int open; // the program whose image is made
        private int newRules; // of the macro that the newest program defines

        Store(Area room) {
            this.room = room;
            values = new long[MAX_DATA];
            firsts = new int[MAX_DATA];
            rests = new int[MAX_DATA];
            measures = new int[MAX_DATA];
            meanings = new int[SYMBOLS];
            contents = new long[SYMBOLS];
            changes = new Area(room, MOST_OF_IMAGE);
            programData = new int[MAX_PROGRAMS];
            programChanges = new int[MAX_PROGRAMS];
            roots = new int[MAX_PROGRAMS];
            ends = new int[MAX_PROGRAMS];
            images = new Area[MAX_PROGRAMS];
            open = -1;
            mostOfImages = FEW_BLOCKS;
            for (int symbol = QUOTE_SYMBOL; symbol <= SYNTAX_SYMBOL; symbol++) {
                meanings[symbol] = KEYWORD;
            }
            for (int symbol = FIRST_PRIMITIVE; symbol <= LAST_PRIMITIVE; symbol++) {
                meanings[symbol] = VARIABLE;
                contents[symbol] = primitiveValue(symbol);
            }
        }

        // ---- data

        boolean has(int datum) {
            return datum >= 0 && datum < count;
        }

        long valueOf(int datum) {
            return datum >= 0 && datum < values.length ? values[datum] : 0;
        }

        boolean isLaidPair(int datum) {
            return datum >= 0 && datum < values.length && (values[datum] & VALUE_MASK) == PAIR;
        }

        int firstOf(int datum) {
            return datum >= 0 && datum < firsts.length ? firsts[datum] : -1;
        }

        int restOf(int datum) {
            return datum >= 0 && datum < rests.length ? rests[datum] : -1;
        }

        int sizeOf(int datum) {
            return at(measures, datum) & SIZE_MASK;
        }

        /** Gives a value that is no pair the next number; -1 if there is none left. */
        int lay(long value) {
            return layParts(value, MEASURE_OF_ONE, -1, -1);
        }

        /** The number of a new pair; -1 if it would be too many, too deep or too large. */
        int layPair(int first, int rest) {
            int one = at(measures, first);
            int other = at(measures, rest);
            int size = (one & SIZE_MASK) + (other & SIZE_MASK) + 1;
            int depth = Math.max((one >> DEPTH_SHIFT) + 1, other >> DEPTH_SHIFT);
            boolean isRight = size <= MAX_SIZE && depth <= MAX_LAID_DEPTH;
            long value = PAIR | (LAID | count) << VALUE_BITS;
            return isRight ? layParts(value, depth << DEPTH_SHIFT | size, first, rest) : -1;
        }

        private int layParts(long value, int measure, int first, int rest) {
            if (count < 0 || count >= MAX_DATA) {
                return -1;
            }
            putWord(values, count, value);
            put(measures, count, measure);
            put(firsts, count, first);
            put(rests, count, rest);
            count++;
            return count - 1;
        }

        boolean areDataSound() {
            for (int datum = 0; datum < count; datum++) {
                long value = valueOf(datum);
                if (tagOf(value) == NUMBER && !isInLowestTerms(value)) {
                    return false;
                }
                boolean areLower = firstOf(datum) < datum && restOf(datum) < datum;
                if (tagOf(value) == PAIR && (!areLower || firstOf(datum) < 0 || restOf(datum) < 0)) {
                    return false;
                }
            }
            return true;
        }

        /** Whether two data are shaped alike: lists by their parts, other data by what they are. */
        boolean haveOneShape(int datum, int other, int level) {
            int a = datum;
            int b = other;
            for (int i = 0; i < MAX_SIZE && isLaidPair(a) && isLaidPair(b); i++) {
                if (level >= MAX_LEVEL || !haveOneShape(firstOf(a), firstOf(b), level + 1)) {
                    return false;
                }
                a = restOf(a);
                b = restOf(b);
            }
            return valueOf(a) == valueOf(b);
        }

        // ---- symbols

        int meaningOf(int symbol) {
            return at(meanings, symbol);
        }

        /** The value of a global variable; 0 if there is none. */
        long globalValue(int symbol) {
            return wordAt(contents, symbol);
        }

        /** Lets a symbol be a variable with a value, or a macro with the rules that the newest program has for it. */
        void define(int symbol, int newMeaning, long content) {
            int before = meaningOf(symbol);
            if (newMeaning == MACRO || before == MACRO || before == KEYWORD) {
                changes.reach(changeCount + 1);
                changes.put(changeCount, symbol | newMeaning << 8 | (long) (newMeaning == MACRO ? newRules : 0) << 16);
                changeCount += changeCount < MAX_CHANGES ? 1 : 0;
            }
            newRules = newMeaning == MACRO ? 0 : newRules;
            put(meanings, symbol, newMeaning);
            putWord(contents, symbol, newMeaning == VARIABLE ? content : 0);
        }

        void setNewRules(int rules) {
            newRules = rules;
        }

        /** Whether there are rules of a program that did not come to define its macro. */
        boolean hasNewRules() {
            return newRules != 0;
        }

        /** Lets rows be what symbols meant when a program began, and the rules of macros then. */
        void recallMeanings(int program, int[] meaningsThen, int[] rulesThen) {
            for (int symbol = 0; symbol < SYMBOLS; symbol++) {
                put(meaningsThen, symbol, symbol <= SYNTAX_SYMBOL ? KEYWORD : UNKNOWN);
                put(rulesThen, symbol, 0);
            }
            int known = at(programChanges, program);
            for (int i = 0; i < known; i++) {
                long change = changes.get(i);
                int symbol = (int) change & 255;
                put(meaningsThen, symbol, (int) (change >>> 8) & 255);
                put(rulesThen, symbol, (int) (change >>> 16));
            }
        }

        // ---- programs

        /** The number of a new program; 0 if there is none left. */
        int newProgram(int datum) {
            if (programs >= MAX_PROGRAMS - 1) {
                return 0;
            }
            programs++;
            setProgram(programs, datum);
            return programs;
        }

        /** Lets a number be that of a program that begins now. */
        void setProgram(int program, int datum) {
            put(programData, program, datum);
            put(programChanges, program, changeCount);
        }

        int datumOf(int program) {
            return at(programData, program);
        }

        int rootOf(int program) {
            return at(roots, program);
        }

        boolean isLoaded(int program) {
            return program >= 0 && program < ends.length && ends[program] > 0;
        }

        /** A number of the image of a program. */
        int word(int program, int offset) {
            if (program < 0 || program >= images.length) {
                return 0;
            }
            Area image = images[program];
            return image == null ? 0 : (int) (image.get(offset >> 1) >>> ((offset & 1) << 5));
        }

        /** What a datum in an image is. */
        long plainValue(int program, int datum) {
            int content = datum >> DATUM_BITS;
            switch (datum & (1 << DATUM_BITS) - 1) {
                case SYMBOL_DATUM:
                    return symbolValue(content);
                case PAIR_DATUM:
                    return QUOTED | (long) content << VALUE_BITS | (long) program << VALUE_BITS + OFFSET_BITS;
                default:
                    return valueOf(content);
            }
        }

        /** How many blocks there must be besides the image of a program for what is at hand when it is evaluated. */
        int blocksBeside(int program) {
            return Math.min(at(ends, program), MOST_AT_HAND) / BLOCK_WORDS + FEW_AT_HAND;
        }

        boolean hasRoom(int blocks) {
            return room.spare() >= blocks;
        }

        /** Lets so many blocks be free in the room; other images may be given up for them. */
        boolean makeRoom(int blocks, int kept) {
            for (int i = 0; i < MAX_PROGRAMS && room.spare() < blocks; i++) {
                int large = largeImage(kept);
                if (large < 0) {
                    break;
                }
                dropImage(large);
            }
            return room.spare() >= blocks;
        }

        /**
         * A program of which the image is one of the largest; -1 if there is none that may be given up. Which one of them it is
         * changes, so that programs that are wanted in turns are not given up in just that order.
         */
        private int largeImage(int kept) {
            int largest = 0;
            for (int i = 0; i < MAX_PROGRAMS; i++) {
                largest = i == open || i == kept ? largest : Math.max(largest, at(ends, i));
            }
            int first = drops * 379;
            int chosen = -1;
            for (int i = 0; i < MAX_PROGRAMS && chosen < 0 && largest > 0; i++) {
                int program = Math.floorMod(first + i, MAX_PROGRAMS);
                boolean isFree = program != open && program != kept;
                chosen = isFree && at(ends, program) > largest / 2 ? program : -1;
            }
            drops++;
            return chosen;
        }

        private int blocksOfImages() {
            int blocks = 0;
            for (int i = 0; i < images.length; i++) {
                blocks += images[i] == null ? 0 : images[i].countOfBlocks();
            }
            return blocks;
        }

        private void dropImage(int program) {
            if (program >= 0 && program < images.length && images[program] != null) {
                images[program].cut(0);
                put(ends, program, 0);
            }
        }

        /** Begins to make the image of a program. If there was one that was given up, more of them are to be held. */
        void openImage(int program) {
            boolean isAgain = program != 0 && at(roots, program) != 0;
            mostOfImages = isAgain ? Math.min(MOST_BLOCKS, 2 * mostOfImages) : mostOfImages;
            dropImage(program);
            for (int i = 0; i < MAX_PROGRAMS && blocksOfImages() > mostOfImages; i++) {
                dropImage(largeImage(program));
            }
            if (program >= 0 && program < images.length && images[program] == null) {
                images[program] = new Area(room, MOST_OF_IMAGE);
            }
            open = program;
            put(ends, open, 1);
        }

        /** Ends it; it is given up if the program is wrong. */
        void closeImage(boolean isRight, int root) {
            put(roots, open, root);
            if (!isRight) {
                dropImage(open);
            }
            open = -1;
        }

        int nextOffset() {
            return at(ends, open);
        }

        /** Puts a number behind the image that is made; where it is. */
        int emit(int number) {
            int end = at(ends, open);
            if (open >= 0 && open < images.length && images[open] != null && end < OFFSET_MASK) {
                images[open].reach((end >> 1) + 1);
                put(ends, open, end + 1);
                patch(end, number);
            }
            return end;
        }

        /** Adds to a number of the image that is made. */
        void addTo(int offset, int number) {
            patch(offset, word(open, offset) + number);
        }

        /** Puts a number in place of another one of the image that is made. */
        void patch(int offset, int number) {
            if (open >= 0 && open < images.length && images[open] != null) {
                Area image = images[open];
                long old = image.get(offset >> 1);
                long word = number & 0xFFFFFFFFL;
                boolean isLow = (offset & 1) == 0;
                image.put(offset >> 1, isLow ? old >>> 32 << 32 | word : old << 32 >>> 32 | word << 32);
            }
        }
    }

    /**
     * The text. Data and expanded programs are written into it; what would be too long leaves it as it was. And it is taken
     * apart to be read: whether it is one datum, and then that is laid.
     */
    private static final class Text {
        // What is still to be written: a datum, what follows behind a part of a list, a form, the forms from a place in
        // some parts on, ")", and nothing, but behind the body of a lambda its variables are no longer bound.
        private static final int DATUM = 0;
        private static final int TAIL = 1;
        private static final int FORM = 2;
        private static final int FORMS = 3;
        private static final int CLOSE = 4;
        private static final int UNBIND = 5;
        private static final int MAX_JOBS = 2048;
        private static final int MAX_DIGITS = 18;

        private final Store store;
        private final Finder finder;
        private final char[] text;
        int length;
        private final char[] draft;
        private int drafted;
        private final int[] jobs;
        private final long[] subjects;
        private int waiting;
        private final int[] binders; // the number of the first variable of each lambda around
        private int bindersAround;
        private int variables;
        // The pieces that it was taken apart to: '(', ')', '.', 'n' a number, 's' a symbol, 't' a truth; and their values.
        private final char[] pieces;
        private final long[] values;
        private int pieceCount;
        int needed; // data that it would lay
        // The lists that are open: how far each one is, the depth of its parts, where its parts begin.
        private final int[] stages;
        private final int[] depths;
        private final int[] parts;
        private int open;

        Text(Store store, Finder finder) {
            this.store = store;
            this.finder = finder;
            text = new char[MAX_TEXT];
            draft = new char[MAX_TEXT];
            jobs = new int[MAX_JOBS];
            subjects = new long[MAX_JOBS];
            binders = new int[LEVELS];
            pieces = new char[MAX_TEXT];
            values = new long[MAX_TEXT];
            stages = new int[MAX_TEXT + 1];
            depths = new int[MAX_TEXT + 1];
            parts = new int[MAX_TEXT + 1];
        }

        char signAt(int index) {
            return index >= 0 && index < length && index < text.length ? text[index] : ' ';
        }

        int append(char sign) {
            if (length >= 0 && length < text.length) {
                text[length] = sign;
                length++;
            }
            return length;
        }

        int forget() {
            int before = length;
            length = 0;
            return before;
        }

        /** Begins to write a datum, or the slot of program 0. */
        void start(boolean isProgram, long subject) {
            drafted = 0;
            waiting = 0;
            bindersAround = 0;
            variables = 0;
            later(isProgram ? FORM : DATUM, subject);
        }

        /** Goes on with writing; the number of a program that must be expanded for it first, or 0 at the end. */
        int goOn() {
            for (int i = 0; i < MAX_STEPS && waiting > 0 && waiting < MAX_JOBS - 2 && drafted <= MAX_TEXT; i++) {
                if (finder.isBusy()) {
                    finder.goOn();
                }
                if (finder.wanted != 0) {
                    return finder.takeWanted();
                }
                waiting--;
                int job = waiting;
                long next = wordAt(subjects, waiting);
                switch (at(jobs, waiting)) {
                    case DATUM:
                        startDatum(next);
                        break;
                    case TAIL:
                        putTail(next);
                        break;
                    case FORM:
                        startForm((int) next);
                        break;
                    case FORMS:
                        putForms((int) next);
                        break;
                    case CLOSE:
                        put(')');
                        break;
                    default:
                        bindersAround--;
                }
                // A part that is not there yet is put when it is.
                waiting = finder.isBusy() || finder.wanted != 0 ? job + 1 : waiting;
            }
            drafted = waiting > 0 ? MAX_TEXT + 1 : drafted;
            finder.drop();
            return 0;
        }

        /** Goes on behind the expansion of a program, which may have found no room. */
        void takeProgram(boolean isThere) {
            if (!isThere) {
                waiting = MAX_JOBS;
            }
        }

        /** Ends with writing: the length of the text; -1 if it would be too long. */
        int finish() {
            if (drafted > MAX_TEXT) {
                return -1;
            }
            System.arraycopy(draft, 0, text, 0, drafted);
            length = drafted;
            return length;
        }

        private void later(int job, long subject) {
            WindwardScheme.put(jobs, waiting, job);
            putWord(subjects, waiting, subject);
            waiting++;
        }

        private void put(char sign) {
            if (drafted >= 0 && drafted < draft.length) {
                draft[drafted] = sign;
            }
            drafted++;
        }

        private void putText(String word) {
            for (int i = 0; i < word.length(); i++) {
                put(word.charAt(i));
            }
        }

        private void putNumber(long number) {
            long rest = number;
            if (rest < 0) {
                put('-');
                rest = -rest;
            }
            boolean isBegun = false;
            for (long unit = 1000000000L; unit >= 1; unit /= 10) {
                long digit = rest / unit % 10;
                isBegun = isBegun || digit != 0 || unit == 1;
                if (isBegun) {
                    put((char) ('0' + digit));
                }
            }
        }

        private void putNamed(char sign, int number) {
            put(sign);
            putNumber(number);
        }

        private void startDatum(long value) {
            switch (tagOf(value)) {
                case NUMBER:
                    putNumber(numeratorOf(value));
                    if (denominatorOf(value) != 1) {
                        put('/');
                        putNumber(denominatorOf(value));
                    }
                    break;
                case PAIR:
                case VIEW:
                case QUOTED:
                    putPart('(', value);
                    break;
                case CLOSURE:
                    putText("#c");
                    break;
                case CONTINUATION:
                    putText("#k");
                    break;
                default:
                    putAtom(value);
            }
        }

        private void putAtom(long value) {
            switch ((int) value & ATOM_MASK) {
                case SYMBOL_ATOM:
                    putNamed('s', atomNumber(value));
                    break;
                case TRUTH_ATOM:
                    putText(value == TRUE ? "#t" : "#f");
                    break;
                case PRIMITIVE_ATOM:
                    putText("#p");
                    putNumber(atomNumber(value));
                    break;
                default:
                    putText(value == EMPTY ? "()" : "#u");
            }
        }

        /** Puts the first part of a pair behind a sign; if something is wanted for it, nothing is done. */
        private void putPart(char sign, long pair) {
            long first = finder.firstOf(pair);
            long rest = first == 0 ? 0 : finder.restOf(pair);
            if (rest != 0) {
                put(sign);
                later(TAIL, rest);
                later(DATUM, first);
            }
        }

        private void putTail(long value) {
            if (value == EMPTY) {
                put(')');
            } else if (isPairValue(value)) {
                putPart(' ', value);
            } else {
                putText(" . ");
                later(CLOSE, 0);
                later(DATUM, value);
            }
        }

        private void putForms(int offset) {
            int slot = store.word(0, offset);
            if (slot == 0) {
                put(')');
            } else {
                put(' ');
                later(FORMS, offset + 1);
                later(FORM, slot);
            }
        }

        private void startForm(int slot) {
            int content = slot >>> SLOT_SHIFT;
            switch (slot & TAG_MASK) {
                case CALL:
                    put('(');
                    later(FORMS, content + 1);
                    later(FORM, store.word(0, content));
                    break;
                case BRANCH:
                    putText("(if");
                    later(FORMS, content);
                    break;
                case SEQUENCE:
                    putText("(begin");
                    later(FORMS, content);
                    break;
                case CONSTANT:
                    later(DATUM, store.valueOf(content));
                    break;
                case QUOTATION:
                    putText("(quote ");
                    later(CLOSE, 0);
                    later(DATUM, store.plainValue(0, content));
                    break;
                case LOCAL:
                    putVariable(slot);
                    break;
                case GLOBAL:
                    putNamed('s', content);
                    break;
                default:
                    startOther(content);
            }
        }

        private void putVariable(int slot) {
            int first = at(binders, bindersAround - 1 - (slot >>> DEPTH_OUT_SHIFT));
            putNamed('x', first + (slot >> SLOT_SHIFT & REST - 1));
        }

        private void startOther(int node) {
            int info = store.word(0, node + 1);
            switch (store.word(0, node)) {
                case LAMBDA:
                    putText("(lambda ");
                    startLambda(info >> 1 & REST - 1, (info & 1) != 0);
                    later(FORMS, node + BODY_PLACE);
                    return;
                case SET_LOCAL:
                    putText("(set ");
                    putVariable(info);
                    break;
                case SET_GLOBAL:
                    putText("(set ");
                    putNamed('s', info);
                    break;
                case DEFINITION:
                    putText("(define ");
                    putNamed('s', info);
                    break;
                default:
                    putText("(define-syntax ");
                    putNamed('s', info);
                    put(')');
                    return;
            }
            put(' ');
            later(CLOSE, 0);
            later(FORM, store.word(0, node + 2));
        }

        /** Writes the parameters of a lambda, which are bound up to the end of its body. */
        private void startLambda(int parameters, boolean hasRest) {
            int first = variables;
            int bound = parameters + (hasRest ? 1 : 0);
            variables += bound;
            if (bound > 0) {
                WindwardScheme.put(binders, bindersAround, first);
                bindersAround++;
                later(UNBIND, 0);
            }
            if (parameters == 0 && hasRest) {
                putNamed('x', first);
                return;
            }
            put('(');
            for (int i = 0; i < parameters && drafted <= MAX_TEXT; i++) {
                if (i > 0) {
                    put(' ');
                }
                putNamed('x', first + i);
            }
            if (hasRest) {
                putText(" . ");
                putNamed('x', first + parameters);
            }
            put(')');
        }

        // ---- reading

        /** Whether the text is one datum that is not too deep; then needed is how many data it would lay. */
        boolean isDatum() {
            return isSplit() && isOneDatum();
        }

        private boolean isSplit() {
            pieceCount = 0;
            int index = 0;
            for (int i = 0; i < MAX_TEXT && index < length; i++) {
                char sign = signAt(index);
                int end = index + 1;
                if (sign == '(' || sign == ')') {
                    addPiece(sign, 0);
                } else if (sign != ' ') {
                    end = endOfPiece(index);
                    if (!isPiece(index, end)) {
                        return false;
                    }
                }
                index = end;
            }
            return true;
        }

        private int endOfPiece(int start) {
            for (int i = start; i < length; i++) {
                char sign = signAt(i);
                if (sign == ' ' || sign == '(' || sign == ')') {
                    return i;
                }
            }
            return length;
        }

        private void addPiece(char piece, long value) {
            if (pieceCount >= 0 && pieceCount < MAX_TEXT) {
                pieces[pieceCount] = piece;
                values[pieceCount] = value;
                pieceCount++;
            }
        }

        private boolean isPiece(int start, int end) {
            char sign = signAt(start);
            if (sign == '.') {
                addPiece('.', 0);
                return end == start + 1;
            }
            if (sign == '#') {
                char letter = end == start + 2 ? signAt(start + 1) : ' ';
                addPiece('t', letter == 't' ? TRUE : FALSE);
                return letter == 't' || letter == 'f';
            }
            if (sign == 's') {
                long symbol = digits(start + 1, end);
                addPiece('s', symbolValue((int) symbol));
                return symbol >= 0 && symbol < SYMBOLS;
            }
            return isNumber(start, end);
        }

        private boolean isNumber(int start, int end) {
            boolean isNegative = signAt(start) == '-';
            int slash = end;
            for (int i = end - 1; i >= start; i--) {
                if (signAt(i) == '/') {
                    slash = i;
                }
            }
            long top = digits(isNegative ? start + 1 : start, slash);
            long bottom = slash == end ? 1 : digits(slash + 1, end);
            if (top < 0 || bottom < 0) {
                return false;
            }
            long value = fraction(isNegative ? -top : top, bottom);
            addPiece('n', value);
            return value != 0;
        }

        /** The number that 1 to 18 digits are; -1 if they are none. */
        private long digits(int start, int end) {
            if (end <= start || end - start > MAX_DIGITS) {
                return -1;
            }
            long number = 0;
            for (int i = start; i < end; i++) {
                char sign = signAt(i);
                if (sign < '0' || sign > '9') {
                    return -1;
                }
                number = number * 10 + (sign - '0');
            }
            return number;
        }

        // The stages of an open list: 0 without parts, 1 with parts, 2 behind a point, 3 behind what ends it.
        // At the bottom lies the whole text: it is at stage 2 as long as its one datum is missing.
        private boolean isOneDatum() {
            open = 0;
            needed = 0;
            WindwardScheme.put(stages, 0, 2);
            for (int i = 0; i < pieceCount && i < MAX_TEXT; i++) {
                boolean isRight;
                switch (pieces[i]) {
                    case '(':
                        open++;
                        WindwardScheme.put(stages, open, 0);
                        WindwardScheme.put(depths, open, 1);
                        isRight = true;
                        break;
                    case ')':
                        isRight = closes();
                        break;
                    case '.':
                        isRight = at(stages, open) == 1;
                        WindwardScheme.put(stages, open, 2);
                        break;
                    default:
                        needed++;
                        isRight = takesPart(1);
                }
                if (!isRight) {
                    return false;
                }
            }
            return open == 0 && at(stages, 0) == 3;
        }

        private boolean takesPart(int depth) {
            int stage = at(stages, open);
            boolean isEnd = stage == 2;
            WindwardScheme.put(stages, open, isEnd ? 3 : 1);
            WindwardScheme.put(depths, open, Math.max(at(depths, open), isEnd ? depth : depth + 1));
            if (!isEnd) {
                needed++;
            }
            return stage != 3 && depth <= MAX_LAID_DEPTH;
        }

        private boolean closes() {
            int stage = at(stages, open);
            if (open == 0 || stage == 2) {
                return false;
            }
            if (stage != 3) {
                needed++;
            }
            int depth = at(depths, open);
            open--;
            return takesPart(depth);
        }

        /** Lays the datum that was looked at; its number, or -1 if there is no room. */
        int layAll() {
            open = 0;
            int top = 0;
            for (int i = 0; i < pieceCount && i < MAX_TEXT; i++) {
                switch (pieces[i]) {
                    case '(':
                        open++;
                        WindwardScheme.put(stages, open, 0);
                        WindwardScheme.put(depths, open, top);
                        break;
                    case ')':
                        int start = at(depths, open);
                        WindwardScheme.put(parts, start, layList(start, top));
                        top = start + 1;
                        open--;
                        break;
                    case '.':
                        WindwardScheme.put(stages, open, 2);
                        break;
                    default:
                        WindwardScheme.put(parts, top, store.lay(values[i]));
                        top++;
                }
            }
            return at(parts, 0);
        }

        private int layList(int start, int top) {
            boolean isDotted = at(stages, open) == 2;
            int last = isDotted ? top - 1 : top;
            int list = isDotted ? at(parts, last) : store.lay(EMPTY);
            for (int i = last - 1; i >= start; i--) {
                list = store.layPair(at(parts, i), list);
            }
            return list;
        }
    }

    /**
     * Macros, and what they and forms are seen by: terms. A term is a laid datum, or a pair or a renamed name that an
     * expansion made, which are nodes of one word each; those of the expansion at hand are given up behind it, but the rules
     * of a macro that a macro made are kept. Names that are bound are known here, too.
     *
     * <p>A variable of a pattern that is a row is bound to the whole list, with the pattern ahead of the ellipsis; so nothing
     * is held for what is in the list, until its parts are matched with that pattern, one behind the other.
     */
    private static final class Macros {
        private static final int FIRST_NODE = 4096;
        private static final int FIRST_SCRATCH = 1 << 20;
        private static final int INDEX = FIRST_SCRATCH - 1; // of the node of a term
        private static final int TERM_BITS = 21;
        private static final int TERM_MASK = (1 << 21) - 1;
        // A pair: 0, its parts, a note; a renamed name: 1, the name under it, its mark, its symbol.
        private static final int UNDER_SHIFT = 1;
        private static final int SECOND_SHIFT = 22;
        private static final int NOTE_SHIFT = 43;
        private static final int SYMBOL_SHIFT = 42;
        private static final int MARK_BITS = 20;
        private static final int MOST_NODES = 4096; // blocks
        private static final int MOST_PARTS = 3 * MAX_SIZE;
        private static final int HEADS = 1024;
        private static final int HEADS_SHIFT = 22;
        // A bound name: its term, what is known of it, the one that was bound before with the same head.
        private static final int KNOWN_SHIFT = 21;
        private static final int KNOWN_MASK = (1 << 25) - 1;
        private static final int NEXT_SHIFT = 46;
        private static final int MAX_UNDER = 1000;

        private final Store store;
        private final Area kept;
        private int keptCount;
        private int keptBefore; // the newest definition
        private final Area scratch;
        private int scratchCount;
        private final Area scopes;
        private int scopeCount;
        private final int[] heads;
        private final Area bindings; // of the variables of patterns: name, what it matched, pattern of a row or 0
        private int bound;
        private final Area rows; // patterns, with what is left of their lists
        private int rowCount;
        private final Area parts; // of lists that are built
        private int built;
        private long literals;
        private int mark;
        private int size;
        private int rowLength;
        private boolean areRowsEven;

        Macros(Area room, Store store) {
            this.store = store;
            kept = new Area(room, MOST_NODES);
            scratch = new Area(room, MOST_NODES);
            scopes = new Area(room, MOST_NODES);
            bindings = new Area(room, MOST_NODES);
            rows = new Area(room, MOST_NODES);
            parts = new Area(room, MOST_NODES);
            heads = new int[HEADS];
            keptCount = FIRST_NODE;
        }

        /** Gives up all that the expansion at hand made. */
        void giveUp() {
            leaveScopes(0);
            scratchCount = 0;
            bound = 0;
            rowCount = 0;
            built = 0;
            scratch.cut(0);
            scopes.cut(0);
            bindings.cut(0);
            rows.cut(0);
            parts.cut(0);
        }

        // ---- terms

        /** The number of a datum that was laid; -1 if it is none. */
        static int datumOf(int term) {
            return term < FIRST_NODE ? term - 1 : -1;
        }

        boolean isPair(int term) {
            Area nodes = term >= FIRST_SCRATCH ? scratch : kept;
            return term < FIRST_NODE ? store.isLaidPair(term - 1) : (nodes.get(term & INDEX) & 1) == 0;
        }

        int first(int term) {
            Area nodes = term >= FIRST_SCRATCH ? scratch : kept;
            return term < FIRST_NODE
                    ? store.firstOf(term - 1) + 1
                    : (int) (nodes.get(term & INDEX) >>> UNDER_SHIFT) & TERM_MASK;
        }

        int rest(int term) {
            Area nodes = term >= FIRST_SCRATCH ? scratch : kept;
            return term < FIRST_NODE
                    ? store.restOf(term - 1) + 1
                    : (int) (nodes.get(term & INDEX) >>> SECOND_SHIFT) & TERM_MASK;
        }

        boolean isRenamed(int term) {
            Area nodes = term >= FIRST_SCRATCH ? scratch : kept;
            return term >= FIRST_NODE && (nodes.get(term & INDEX) & 1) != 0;
        }

        boolean isName(int term) {
            return symbolOf(term) >= 0;
        }

        /** The symbol of a name; -1 if it is none. */
        int symbolOf(int term) {
            if (term >= FIRST_NODE) {
                Area nodes = term >= FIRST_SCRATCH ? scratch : kept;
                long node = nodes.get(term & INDEX);
                return (node & 1) != 0 ? (int) (node >>> SYMBOL_SHIFT) : -1;
            }
            long value = store.valueOf(term - 1);
            return ((int) value & ATOM_MASK) == SYMBOL_ATOM ? atomNumber(value) : -1;
        }

        boolean isEmptyList(int term) {
            return term < FIRST_NODE && store.valueOf(term - 1) == EMPTY;
        }

        private int markOf(int term) {
            Area nodes = term >= FIRST_SCRATCH ? scratch : kept;
            long node = term < FIRST_NODE ? 0 : nodes.get(term & INDEX);
            return (node & 1) != 0 ? (int) (node >>> SECOND_SHIFT) & (1 << MARK_BITS) - 1 : 0;
        }

        /** What is noted with a pair that was made; 0 if nothing is. */
        int noteOf(int term) {
            return term < FIRST_SCRATCH ? 0 : (int) (scratch.get(term & INDEX) >>> NOTE_SHIFT);
        }

        void setNote(int term, int note) {
            if (term >= FIRST_SCRATCH) {
                long node = scratch.get(term & INDEX) & (1L << NOTE_SHIFT) - 1;
                scratch.put(term & INDEX, node | (long) note << NOTE_SHIFT);
            }
        }

        /** Whether two names are the same: one symbol, or the same mark on the same name. */
        private boolean areSameNames(int name, int other) {
            int a = name;
            int b = other;
            for (int i = 0; i < MAX_UNDER && a != b && a >= FIRST_NODE && b >= FIRST_NODE; i++) {
                long one = (a >= FIRST_SCRATCH ? scratch : kept).get(a & INDEX);
                long two = (b >= FIRST_SCRATCH ? scratch : kept).get(b & INDEX);
                if (((one ^ two) >>> SECOND_SHIFT & (1 << MARK_BITS) - 1) != 0) {
                    return false;
                }
                a = (int) (one >>> UNDER_SHIFT) & TERM_MASK;
                b = (int) (two >>> UNDER_SHIFT) & TERM_MASK;
            }
            return a == b || a < FIRST_NODE && b < FIRST_NODE && store.valueOf(a - 1) == store.valueOf(b - 1);
        }

        /** The number of parts of a list; -1 if it does not end with the empty list. */
        int lengthOf(int list) {
            int length = 0;
            int cell = list;
            for (int i = 0; i < MAX_SIZE && isPair(cell); i++) {
                cell = rest(cell);
                length++;
            }
            return isEmptyList(cell) ? length : -1;
        }

        private int newNode(long node) {
            scratch.reach(scratchCount + 1);
            scratch.put(scratchCount, node);
            scratchCount++;
            return FIRST_SCRATCH + scratchCount - 1;
        }

        private int newKept(long node) {
            kept.put(keptCount, node);
            keptCount++;
            return keptCount - 1;
        }

        private static long pairNode(int first, int rest) {
            return (long) first << UNDER_SHIFT | (long) rest << SECOND_SHIFT;
        }

        private static long nameNode(int under, int nameMark, int symbol) {
            return 1 | (long) under << UNDER_SHIFT | (long) nameMark << SECOND_SHIFT | (long) symbol << SYMBOL_SHIFT;
        }

        private void addPart(int part) {
            parts.put(built, part);
            built++;
        }

        /** A term that is there as long as the object. */
        int keptTerm(int term, int level) {
            if (level == 0) {
                kept.reach(keptCount + MOST_PARTS);
                parts.reach(MOST_PARTS);
                keptBefore = keptCount;
            }
            int bottom = built;
            int cell = term;
            for (int i = 0; i < MAX_SIZE && cell >= FIRST_SCRATCH && level <= MAX_LEVEL && isPair(cell); i++) {
                addPart(keptTerm(first(cell), level + 1));
                cell = rest(cell);
            }
            int copy = isRenamed(cell) && cell >= FIRST_SCRATCH ? keptName(cell) : cell;
            for (int i = built - 1; i >= bottom; i--) {
                copy = newKept(pairNode((int) parts.get(i), copy));
            }
            built = bottom;
            return copy;
        }

        /** Gives up the newest definition that was kept. */
        void forgetKept() {
            keptCount = keptBefore == 0 ? keptCount : keptBefore;
        }

        private int keptName(int name) {
            int bottom = built;
            int under = name;
            for (int i = 0; i < MAX_UNDER && under >= FIRST_SCRATCH && isRenamed(under); i++) {
                addPart(under);
                under = first(under);
            }
            for (int i = built - 1; i >= bottom; i--) {
                int old = (int) parts.get(i);
                under = newKept(nameNode(under, markOf(old), symbolOf(old)));
            }
            built = bottom;
            return under;
        }

        // ---- names that are bound

        private static int headOf(int symbol, int nameMark) {
            return (symbol * 31 + nameMark) * 0x9E3779B1 >>> HEADS_SHIFT;
        }

        int countOfScopes() {
            return scopeCount;
        }

        /** Binds a name, with what is to be known of it. */
        void bindName(int name, int known) {
            int head = headOf(symbolOf(name), markOf(name));
            scopes.reach(scopeCount + 1);
            scopes.put(scopeCount, name | (long) known << KNOWN_SHIFT | (long) at(heads, head) << NEXT_SHIFT);
            scopeCount++;
            put(heads, head, scopeCount);
        }

        /** Lets so many names be bound, as they were before. */
        void leaveScopes(int count) {
            for (int i = scopeCount - 1; i >= count; i--) {
                long scope = scopes.get(i);
                int name = (int) scope & TERM_MASK;
                put(heads, headOf(symbolOf(name), markOf(name)), (int) (scope >>> NEXT_SHIFT));
            }
            scopeCount = Math.min(scopeCount, count);
        }

        /** What is known of a name that is bound; -1 if it is not. */
        int known(int name) {
            int symbol = symbolOf(name);
            int scope = symbol < 0 ? 0 : at(heads, headOf(symbol, markOf(name)));
            for (int i = 0; i < MAX_STEPS && scope > 0; i++) {
                long found = scopes.get(scope - 1);
                if (areSameNames((int) found & TERM_MASK, name)) {
                    return (int) (found >>> KNOWN_SHIFT) & KNOWN_MASK;
                }
                scope = (int) (found >>> NEXT_SHIFT);
            }
            return -1;
        }

        // ---- rules

        /** Whether this is a list of literals and of rules with right patterns. */
        boolean areRules(int definition) {
            if (!isPair(definition) || !areLiterals(first(definition))) {
                return false;
            }
            int rules = rest(definition);
            for (int i = 0; i < MAX_SIZE && isPair(rules); i++) {
                int rule = first(rules);
                int pattern = first(rule);
                bound = 0;
                if (lengthOf(rule) != 2 || !isPair(pattern) || !isRightPattern(rest(pattern), 0)) {
                    return false;
                }
                rules = rest(rules);
            }
            return true;
        }

        /** Whether this is a list of names; they become the literals. */
        private boolean areLiterals(int list) {
            literals = 0;
            int cell = list;
            for (int i = 0; i < MAX_SIZE && isPair(cell); i++) {
                int symbol = symbolOf(first(cell));
                if (symbol < 0) {
                    return false;
                }
                literals |= 1L << symbol;
                cell = rest(cell);
            }
            return isEmptyList(cell);
        }

        private boolean isLiteral(int symbol) {
            return symbol >= 0 && (literals >> symbol & 1) != 0;
        }

        private boolean isVariable(int symbol) {
            boolean hasMeaning = symbol == BLANK_SYMBOL || symbol == ELLIPSIS_SYMBOL;
            return symbol >= 0 && !hasMeaning && (literals >> symbol & 1) == 0;
        }

        /** Whether a list begins with an ellipsis; the ellipsis of a pattern must be all of it. */
        private boolean isEllipsisAhead(int list, boolean isAll) {
            return isPair(list) && symbolOf(first(list)) == ELLIPSIS_SYMBOL && (!isAll || isEmptyList(rest(list)));
        }

        /** Whether a pattern is right; its variables come to the names that were there. */
        private boolean isRightPattern(int pattern, int level) {
            if (level > MAX_LEVEL) {
                return false;
            }
            int cell = pattern;
            for (int i = 0; i < MAX_SIZE && isPair(cell); i++) {
                if (!isRightPattern(first(cell), level + 1)) {
                    return false;
                }
                cell = rest(cell);
                if (isEllipsisAhead(cell, true)) {
                    return true;
                }
            }
            int symbol = symbolOf(cell);
            if (!isVariable(symbol)) {
                return symbol != ELLIPSIS_SYMBOL || isLiteral(symbol);
            }
            boolean isNew = bindingOf(cell) == 0;
            bind(cell, 0, 0);
            return isNew;
        }

        /** The first rule that fits a form; 0 if there is none. */
        int fittingRule(int definition, int form) {
            if (!areLiterals(first(definition))) {
                return 0;
            }
            int rules = rest(definition);
            for (int i = 0; i < MAX_SIZE && isPair(rules); i++) {
                int rule = first(rules);
                if (isMatch(rest(first(rule)), rest(form), 0)) {
                    return rule;
                }
                rules = rest(rules);
            }
            return 0;
        }

        private boolean isMatch(int pattern, int form, int level) {
            if (level > MAX_LEVEL) {
                return false;
            }
            int cell = pattern;
            int part = form;
            for (int i = 0; i < MAX_SIZE && isPair(cell); i++) {
                int item = first(cell);
                cell = rest(cell);
                if (isEllipsisAhead(cell, true)) {
                    boolean isRight = true;
                    for (int j = 0; j < MAX_SIZE && isRight && isPair(part); j++) {
                        isRight = isMatch(item, first(part), level + 1);
                        part = rest(part);
                    }
                    return isRight && isEmptyList(part);
                }
                if (!isPair(part) || !isMatch(item, first(part), level + 1)) {
                    return false;
                }
                part = rest(part);
            }
            return isPlainMatch(cell, part);
        }

        /** Whether a pattern that is no pair matches. */
        private boolean isPlainMatch(int pattern, int part) {
            int symbol = symbolOf(pattern);
            if (symbol < 0) {
                return part < FIRST_NODE && store.valueOf(datumOf(pattern)) == store.valueOf(datumOf(part));
            }
            if (symbol == BLANK_SYMBOL || !isLiteral(symbol)) {
                return true;
            }
            return symbolOf(part) == symbol && known(part) < 0;
        }

        // ---- templates

        /** What the template of a rule that fits comes to, by a new mark; 0 if it is wrong. */
        int outcomeOf(int rule, int form, int newMark) {
            mark = newMark;
            size = 0;
            bound = 0;
            rowCount = 0;
            built = 0;
            parts.reach(MOST_PARTS);
            bindPattern(rest(first(rule)), rest(form), 0, 0);
            int outcome = build(first(rest(rule)), 0);
            return outcome != 0 && fits(outcome, MAX_MADE_DEPTH) ? outcome : 0;
        }

        private void bind(int name, int matched, int rowPattern) {
            bindings.reach(bound + 1);
            bindings.put(bound, name | (long) matched << TERM_BITS | (long) rowPattern << 2 * TERM_BITS);
            bound++;
        }

        /** The newest binding of a variable; 0 if there is none. */
        private long bindingOf(int name) {
            for (int i = bound - 1; i >= 0; i--) {
                long binding = bindings.get(i);
                if (areSameNames((int) binding & TERM_MASK, name)) {
                    return binding;
                }
            }
            return 0;
        }

        /** Binds the variables of a pattern; below an ellipsis all of them to its list, with the pattern of its row. */
        private void bindPattern(int pattern, int form, int rowPattern, int level) {
            int cell = pattern;
            int part = form;
            boolean isRow = rowPattern != 0;
            for (int i = 0; i < MAX_SIZE && level <= MAX_LEVEL && isPair(cell); i++) {
                int item = first(cell);
                cell = rest(cell);
                if (isEllipsisAhead(cell, true)) {
                    bindPattern(item, part, isRow ? rowPattern : item, level + 1);
                    return;
                }
                bindPattern(item, isRow ? form : first(part), rowPattern, level + 1);
                part = isRow ? form : rest(part);
            }
            if (isVariable(symbolOf(cell))) {
                bind(cell, part, rowPattern);
            }
        }

        /** What a template comes to with the variables that are bound; 0 if it is wrong. */
        private int build(int template, int level) {
            if (level > MAX_LEVEL) {
                return 0;
            }
            int bottom = built;
            int cell = template;
            boolean isRight = true;
            for (int i = 0; i < MAX_SIZE && isRight && isPair(cell); i++) {
                int part = first(cell);
                cell = rest(cell);
                if (isEllipsisAhead(cell, false)) {
                    cell = rest(cell);
                    isRight = buildRow(part, level + 1);
                } else {
                    isRight = isAdded(build(part, level + 1));
                }
            }
            int whole = isRight ? leaf(cell) : 0;
            for (int i = built - 1; i >= bottom && whole != 0; i--) {
                whole = newNode(pairNode((int) parts.get(i), whole));
            }
            built = bottom;
            return whole;
        }

        /** Puts a part behind the others, if it is right and there is not too much of it. */
        private boolean isAdded(int part) {
            size++;
            boolean isRight = part != 0 && size <= MAX_SIZE;
            if (isRight) {
                addPart(part);
            }
            return isRight;
        }

        private int leaf(int cell) {
            int symbol = symbolOf(cell);
            long binding = symbol < 0 ? 0 : bindingOf(cell);
            if (binding >>> 2 * TERM_BITS != 0) {
                return 0;
            }
            int made = (int) (binding >>> TERM_BITS) & TERM_MASK;
            if (binding == 0) {
                made = symbol < 0 ? cell : newNode(nameNode(cell, mark, symbol));
            }
            size += sizeOf(made, 0);
            return size > MAX_SIZE ? 0 : made;
        }

        private int sizeOf(int term, int level) {
            int sum = 0;
            int cell = term;
            for (int i = 0; i <= MAX_SIZE && cell >= FIRST_NODE && level <= MAX_LEVEL && isPair(cell); i++) {
                sum += 1 + sizeOf(first(cell), level + 1);
                cell = rest(cell);
            }
            return sum + (cell < FIRST_NODE ? store.sizeOf(datumOf(cell)) : 1);
        }

        /** Whether a term is not deeper than this. */
        private boolean fits(int term, int depth) {
            int cell = term;
            for (int i = 0; i < MAX_SIZE && depth > 0 && isPair(cell); i++) {
                if (!fits(first(cell), depth - 1)) {
                    return false;
                }
                cell = rest(cell);
            }
            return depth > 0;
        }

        /** Adds the parts that a template comes to for the items of its rows; whether that is right. */
        private boolean buildRow(int template, int level) {
            int bottom = rowCount;
            areRowsEven = true;
            addRows(template, bottom, level);
            int top = rowCount;
            int count = areRowsEven ? rowLength : 0;
            boolean isRight = top > bottom && areRowsEven;
            int outer = bound;
            for (int i = 0; i < count && isRight; i++) {
                for (int row = bottom; row < top; row++) {
                    long item = rows.get(row);
                    int pattern = (int) item & TERM_MASK;
                    int list = (int) (item >>> TERM_BITS);
                    bindPattern(pattern, first(list), 0, 0);
                    rows.put(row, pattern | (long) rest(list) << TERM_BITS);
                }
                isRight = isAdded(build(template, level));
                bound = outer;
            }
            rowCount = bottom;
            return isRight;
        }

        /** Adds the rows of the variables in a template to those that are there from a bottom on. */
        private void addRows(int template, int bottom, int level) {
            int cell = template;
            for (int i = 0; i < MAX_SIZE && level <= MAX_LEVEL && isPair(cell); i++) {
                addRows(first(cell), bottom, level + 1);
                cell = rest(cell);
            }
            long binding = isName(cell) ? bindingOf(cell) : 0;
            int pattern = (int) (binding >>> 2 * TERM_BITS);
            int list = (int) (binding >>> TERM_BITS) & TERM_MASK;
            long row = pattern | (long) list << TERM_BITS;
            for (int i = bottom; i < rowCount && pattern != 0; i++) {
                if (rows.get(i) == row) {
                    return;
                }
            }
            if (pattern != 0) {
                int length = lengthOf(list);
                areRowsEven = areRowsEven && (rowCount == bottom || rowLength == length);
                rowLength = length;
                rows.reach(rowCount + 1);
                rows.put(rowCount, row);
                rowCount++;
            }
        }
    }

    /** Makes the images of programs. The forms that are around the one at hand are a stack, one level for each. */
    private static final class Expander {
        private static final int WHOLE = 0;
        private static final int OPENED = -1; // in place of a slot, as long as its parts are still to be expanded
        private static final int MOST_SLOTS = 4096;
        private static final int PROGRAM_SHIFT = 8; // of a mark
        private static final int MARKED = 1 << 20; // in the note of a pair: there are marks in it
        // What is known of a bound name: the variable, and how many environments there are with that of its lambda.
        private static final int DEPTH_SHIFT = 12;

        private final Store store;
        private final Macros macros;
        // What symbols meant when the program began.
        private final int[] meanings;
        private final int[] rules;
        // For each level: the forms that are still to be expanded, what came out of a macro in place of the form at hand; what
        // the forms belong to: the tag of a slot, and a kind of node with what it has ahead of its slots; where their slots
        // begin; how many names are bound around, how many environments there are, which lambda it is of.
        private final int[] lists;
        private final int[] outcomes;
        private final int[] kinds;
        private final int[] infos;
        private final int[] starts;
        private final int[] boundAround;
        private final int[] depths;
        private final int[] lambdas; // of environments: their levels
        private int level;
        private final Area slots;
        private int slotCount;
        private final Area anew; // pairs of a datum that were made anew
        private int anewCount;
        private boolean isMarked;
        int used;
        char letter; // what was wrong

        Expander(Area room, Store store) {
            this.store = store;
            macros = new Macros(room, store);
            meanings = new int[SYMBOLS];
            rules = new int[SYMBOLS];
            lists = new int[LEVELS];
            outcomes = new int[LEVELS];
            kinds = new int[LEVELS];
            infos = new int[LEVELS];
            starts = new int[LEVELS];
            boundAround = new int[LEVELS];
            depths = new int[LEVELS];
            lambdas = new int[LEVELS];
            slots = new Area(room, MOST_SLOTS);
            anew = new Area(room, MOST_SLOTS);
        }

        /** Makes the image of a program; whether it is right. Then used tells how many expansions of macros there were. */
        boolean expand(int program, boolean isBegun) {
            if (isBegun && store.hasNewRules()) {
                store.setNewRules(0);
                macros.forgetKept();
            }
            store.recallMeanings(program, meanings, rules);
            store.openImage(program);
            used = 0;
            letter = 'x';
            level = -1;
            slotCount = 0;
            openLevel(WHOLE, 0, 0);
            put(outcomes, 0, store.datumOf(program) + 1);
            boolean isRight = true;
            for (int i = 0; i < MAX_STEPS && isRight && level >= 0; i++) {
                int form = nextForm();
                isRight = hasRoom();
                int symbol = keywordOrMacro(form);
                if (isRight && form == 0) {
                    closeLevel();
                } else if (isRight && at(meanings, symbol) == MACRO) {
                    int rule = macros.fittingRule(at(rules, symbol), form);
                    isRight = rule != 0 && used < MAX_EXPANSIONS;
                    used += isRight ? 1 : 0;
                    int outcome = isRight ? macros.outcomeOf(rule, form, program << PROGRAM_SHIFT | used) : 0;
                    put(outcomes, level, outcome);
                    isRight = outcome != 0;
                } else if (isRight) {
                    int slot = symbol >= 0 ? keywordForm(symbol, form, isBegun) : plainForm(form);
                    isRight = slot != 0;
                    if (slot > 0) {
                        addSlot(slot);
                    }
                }
            }
            store.closeImage(isRight, isRight ? rootOf((int) slots.get(0)) : 0);
            macros.giveUp();
            slots.cut(0);
            anew.cut(0);
            return isRight;
        }

        /** The node that has the program as its body. */
        private int rootOf(int slot) {
            int place = store.emit(LAMBDA);
            store.emit(0);
            link(slot, SEQUENCE | ACTIVE | place + BODY_PLACE << SLOT_SHIFT, 0);
            store.emit(0);
            return place;
        }

        private boolean hasRoom() {
            if (!store.makeRoom(BLOCKS_OF_FORM, -1)) {
                letter = 'o';
            }
            return letter == 'x';
        }

        private void addSlot(int slot) {
            slots.reach(slotCount + 1);
            slots.put(slotCount, slot);
            slotCount++;
        }

        private void openLevel(int kind, int info, int forms) {
            int environments = level < 0 ? 0 : at(depths, level);
            level++;
            put(lists, level, forms);
            put(outcomes, level, 0);
            put(kinds, level, kind);
            put(infos, level, info);
            put(starts, level, slotCount);
            put(boundAround, level, macros.countOfScopes());
            put(depths, level, environments);
        }

        /** Puts the slot of a form in place of those of its parts, which have all been expanded. */
        private void closeLevel() {
            int kind = at(kinds, level);
            int first = at(starts, level);
            int last = slotCount;
            if (level > 0) {
                boolean isLambda = kind == nodeOf(LAMBDA);
                int place = isLambda ? store.nextOffset() : beginNode(last - first);
                int active = isLambda ? 0 : ACTIVE;
                int around = kind & TAG_MASK | ACTIVE | place << SLOT_SHIFT;
                slotCount = first;
                if ((kind & TAG_MASK) == OTHER) {
                    store.emit(kind >> SLOT_SHIFT);
                    store.emit(at(infos, level));
                }
                if (isLambda) {
                    around = SEQUENCE | ACTIVE | place + BODY_PLACE << SLOT_SHIFT;
                    macros.leaveScopes(at(boundAround, level));
                }
                for (int i = first; i < last; i++) {
                    link((int) slots.get(i), around, i - first);
                }
                store.emit(0);
                addSlot(kind & TAG_MASK | active | place << SLOT_SHIFT);
            }
            level--;
        }

        /** Begins with slots or a node: ahead of them is place for what is around them. Where they are. */
        private int beginNode(int count) {
            store.emit(0);
            return store.emit(count << SLOTS_SHIFT) + 1;
        }

        /** Puts a slot into the image, and tells its node what is around it. */
        private void link(int slot, int around, int index) {
            if ((slot & ACTIVE) != 0) {
                int header = (slot >>> SLOT_SHIFT) - 2;
                store.patch(header, around);
                store.addTo(header + 1, index);
            }
            store.emit(slot);
        }

        /** The next form of the level; 0 if there is none. */
        private int nextForm() {
            int outcome = at(outcomes, level);
            if (outcome != 0) {
                put(outcomes, level, 0);
                return outcome;
            }
            int list = at(lists, level);
            if (!macros.isPair(list)) {
                return 0;
            }
            put(lists, level, macros.rest(list));
            return macros.first(list);
        }

        /** The symbol of the first part of a list, if it is a global name and a keyword or a macro; otherwise -1. */
        private int keywordOrMacro(int form) {
            if (!macros.isPair(form) || macros.lengthOf(form) < 0) {
                return -1;
            }
            int head = macros.first(form);
            int symbol = macros.known(head) < 0 ? macros.symbolOf(head) : -1;
            int meaning = at(meanings, symbol);
            return meaning == KEYWORD || meaning == MACRO ? symbol : -1;
        }

        /** The slot of a form without a keyword; 0 if it is wrong. */
        private int plainForm(int form) {
            int datum = Macros.datumOf(form);
            char letterOfForm = datum < 0 ? ' ' : letterOf(store.valueOf(datum));
            if (letterOfForm == 'n' || letterOfForm == 't') {
                return CONSTANT | datum << SLOT_SHIFT;
            }
            if (macros.isPair(form)) {
                return macros.lengthOf(form) > 0 ? around(CALL, 0, form) : 0;
            }
            return macros.isName(form) ? variable(form) : 0;
        }

        private int variable(int name) {
            int known = macros.known(name);
            if (known >= 0) {
                int depth = at(depths, level) - (known >> DEPTH_SHIFT);
                return LOCAL | (known & VARIABLE_MASK) << SLOT_SHIFT | depth << DEPTH_OUT_SHIFT;
            }
            int symbol = macros.symbolOf(name);
            int meaning = at(meanings, symbol);
            return meaning == KEYWORD || meaning == MACRO ? 0 : GLOBAL | symbol << SLOT_SHIFT;
        }

        /** Begins with the forms in another one; 0 if they would be within too many others. */
        private int around(int kind, int info, int forms) {
            if (level >= MAX_FORMS_AROUND) {
                return 0;
            }
            openLevel(kind, info, forms);
            return OPENED;
        }

        private int keywordForm(int keyword, int form, boolean isBegun) {
            int count = macros.lengthOf(form) - 1;
            int forms = macros.rest(form);
            int first = macros.first(forms);
            int behind = macros.rest(forms);
            boolean isWhole = level == 0;
            switch (keyword) {
                case QUOTE_SYMBOL:
                    return count == 1 ? quoteForm(first) : 0;
                case IF_SYMBOL:
                    return count == 2 || count == 3 ? around(BRANCH, 0, forms) : 0;
                case LAMBDA_SYMBOL:
                    return count >= 2 ? lambdaForm(first, behind) : 0;
                case DEFINE_SYMBOL:
                    return count == 2 && isWhole && macros.isName(first)
                            ? around(nodeOf(DEFINITION), macros.symbolOf(first), behind)
                            : 0;
                case SET_SYMBOL:
                    return count == 2 && macros.isName(first) ? setForm(first, behind) : 0;
                case BEGIN_SYMBOL:
                    return count >= 1 ? around(SEQUENCE, 0, forms) : 0;
                default:
                    return count >= 2 && isWhole && macros.isName(first) && macros.areRules(behind)
                            ? syntaxForm(macros.symbolOf(first), behind, isBegun)
                            : 0;
            }
        }

        /** What a level is for a kind of node. */
        private static int nodeOf(int kind) {
            return OTHER | kind << SLOT_SHIFT;
        }

        private int syntaxForm(int symbol, int definition, boolean isBegun) {
            if (isBegun) {
                store.setNewRules(macros.keptTerm(definition, 0));
            }
            int place = store.emit(SYNTAX);
            store.emit(symbol);
            return OTHER | place << SLOT_SHIFT;
        }

        private int setForm(int name, int forms) {
            int variable = variable(name);
            int known = macros.known(name);
            if (variable == 0) {
                return 0;
            }
            if (known >= 0) {
                int lambda = at(lambdas, known >> DEPTH_SHIFT);
                int sets = 1 << SETS_SHIFT + (known & REST - 1) % SETS_BITS;
                put(infos, lambda, at(infos, lambda) | sets);
                return around(nodeOf(SET_LOCAL), variable, forms);
            }
            return around(nodeOf(SET_GLOBAL), variable >>> SLOT_SHIFT, forms);
        }

        private int lambdaForm(int parameters, int body) {
            int before = macros.countOfScopes();
            int depth = at(depths, level) + 1;
            int count = 0;
            int cell = parameters;
            for (int i = 0; i < MAX_SIZE && macros.isPair(cell); i++) {
                if (!isBoundAnew(macros.first(cell), count, depth)) {
                    return 0;
                }
                count++;
                cell = macros.rest(cell);
            }
            boolean hasRest = macros.isName(cell);
            if (hasRest ? !isBoundAnew(cell, count | REST, depth) : !macros.isEmptyList(cell)) {
                return 0;
            }
            int opened = around(nodeOf(LAMBDA), count << 1 | (hasRest ? 1 : 0), body);
            if (opened != 0) {
                put(boundAround, level, before);
                if (macros.countOfScopes() > before) {
                    put(depths, level, depth);
                    put(lambdas, depth, level);
                }
            }
            return opened;
        }

        /** Binds a parameter, if it is a name and none of the same lambda. */
        private boolean isBoundAnew(int name, int place, int depth) {
            int known = macros.known(name);
            if (!macros.isName(name) || known >= 0 && known >> DEPTH_SHIFT == depth) {
                return false;
            }
            macros.bindName(name, place | depth << DEPTH_SHIFT);
            return true;
        }

        // ---- quoted data

        /** The slot of a quoted datum with all marks taken off; each pair with a mark in it is made anew once. */
        private int quoteForm(int datum) {
            anewCount = 0;
            isMarked = false;
            int plain = plainOf(datum, 0);
            for (int i = 0; i < anewCount; i++) {
                macros.setNote((int) anew.get(i), 0);
            }
            return QUOTATION | plain << SLOT_SHIFT;
        }

        /**
         * A datum in the image. A pair that was laid stays as it is; one that a macro made is put into the image, and bears a
         * note of where it is: up to the end of the form if there are marks in it, otherwise up to the end of the program.
         */
        private int plainOf(int datum, int depth) {
            int bottom = slotCount;
            int cell = datum;
            for (int i = 0; i < MAX_SIZE && macros.isPair(cell) && Macros.datumOf(cell) < 0 && macros.noteOf(cell) == 0; i++) {
                addSlot(cell);
                cell = macros.rest(cell);
            }
            int plain = Macros.datumOf(cell) << Store.DATUM_BITS;
            isMarked = false;
            if (macros.isRenamed(cell)) {
                plain = macros.symbolOf(cell) << Store.DATUM_BITS | Store.SYMBOL_DATUM;
                isMarked = true;
            } else if (macros.noteOf(cell) != 0) {
                plain = (macros.noteOf(cell) & MARKED - 1) << Store.DATUM_BITS + 1 | Store.PAIR_DATUM;
                isMarked = (macros.noteOf(cell) & MARKED) != 0;
            }
            for (int i = slotCount - 1; i >= bottom && depth <= MAX_LEVEL; i--) {
                int old = (int) slots.get(i);
                boolean isRestMarked = isMarked;
                int first = plainOf(macros.first(old), depth + 1);
                isMarked = isMarked || isRestMarked;
                if ((store.nextOffset() & 1) != 0) {
                    store.emit(0);
                }
                int place = store.emit(first);
                store.emit(plain);
                plain = place << Store.DATUM_BITS | Store.PAIR_DATUM;
                macros.setNote(old, place >> 1 | (isMarked ? MARKED : 0));
                if (isMarked) {
                    addAnew(old);
                }
            }
            slotCount = bottom;
            return plain;
        }

        private void addAnew(int pair) {
            anew.reach(anewCount + 1);
            anew.put(anewCount, pair);
            anewCount++;
        }
    }

    /**
     * What was evaluated, in intervals from one application to the next, and the log of all else that applications made.
     *
     * <p>A run can hold thousands of values ahead of each of its applications, more than there is room for. So they are not
     * held, but what they can be found by. An interval begins where a body begins (it is the activation of that body then,
     * and the environment of its variables), or where a value is given to what waits; it goes on through the rest of that
     * body, then perhaps through what waited behind it, body by body, up to the next application. So its segments are the
     * START, the ones PASSED through, and the END, which may be the only one. If variables were set in a body, what waited
     * behind it begins with an interval of its own, as long as there are enough numbers for them. What was evaluated in a
     * segment is told by the code, what its tests came to, and the variables as they were then. What waits is named by the
     * interval in the END of which it began to wait; other things that wait are in the log, and named by their place and
     * SPECIAL.
     *
     * <p>An interval takes some words of a table: kind, code and what is behind its body; environment around, place where it
     * ended, what waited for the value that its END went on with, flags; activation of its END, extras, a few tests; that
     * value; a mask of the variables that were set in it, and in which interval one of its own was set at last. Extras are in
     * the log, where they are wanted.
     */
    private static final class History {
        static final int END = 0;
        static final int START = 1;
        static final int PASSED = 2;
        static final int SPECIAL = 1 << INTERVAL_BITS;
        static final int MOST_INTERVALS = (1 << INTERVAL_BITS) - 2;
        private static final int WORDS = 5;
        private static final int CODE_SHIFT = 4;
        private static final int BEHIND_SHIFT = 34;
        private static final int SETS_PLACE = 58; // which of its variables are set somewhere
        private static final int BEGUN = 1;
        private static final int HAS_VARIABLES = 2;
        private static final int PLACE_SHIFT = 19;
        private static final int WAITED_SHIFT = 40;
        private static final int FLAG_SHIFT = 59;
        static final int START_SET = 1; // variables were set in the START, in others that were passed, in the END
        static final int PASSED_SET = 2;
        static final int END_SET = 4;
        static final int STOPPED = 8; // the interval ended with an error ahead of what is at its place
        static final int DROPPING = 16; // the value that is waited for at its end is dropped
        private static final int ARRIVED = 32; // of the interval at hand: a jump came behind what may be a body passed
        private static final int EXTRA_SHIFT = 19;
        private static final int TESTS_SHIFT = 43;
        private static final int FEW_TESTS = 20;
        private static final int MASK_BITS = 44;
        private static final long PASSED_BIT = 1L << MASK_BITS; // it was set ahead of the END of the interval, too
        private static final int LAST_SHIFT = MASK_BITS + 1;
        // Extras: their type, the next one, a number; and words behind that.
        static final int LIST_EXTRA = 1; // arguments: how many, the list of them
        static final int ONE_EXTRA = 2; // the only argument
        static final int COUNT_EXTRA = 3; // how many arguments there are
        static final int ARGUMENTS_EXTRA = 4; // how many arguments there are, all of them
        private static final int START_EXTRA = 6; // tests of the START
        private static final int PASSED_EXTRA = 7; // tests of those passed from the first with settings; that one, its value
        private static final int END_EXTRA = 8; // tests of the END
        private static final int TYPE_BITS = 4;
        private static final int INFO_SHIFT = 28;
        // Tests are a row of bits, in a word with a 1 behind them if they are not many, else in some words of the log.
        private static final int TESTS_OF_WORD = 48;
        private static final int MOST_TESTS = 1 << 17;
        private static final int NO_TESTS = (1 << 18) - 1; // in place of their number: they are not known
        private static final int JUMPED = 1 << 18; // with their number
        private static final long OF_ROW = 1L << 50; // in the key of tests: they are a row in the log
        private static final int ROWS = 4096;
        private static final int ROWS_SHIFT = 20;
        private static final int BASES = 64;
        private static final int BASE_SHIFT = 18;
        private static final int CHANGED_SHIFT = 42;
        // Words of the room that are left for each application that may still come: what there must be for it, and so that
        // there is room for tests, if there are to be held values, or intervals besides those of the applications.
        private static final int WORDS_OF_APPLICATION = 16;
        private static final int WORDS_WITH_TESTS = 17;
        private static final int WORDS_WITH_ALL = 18;
        private static final int SPARE_INTERVALS = 64;
        private static final int SPARE_WORDS = 28000; // more than a step may take, with blocks that are not full

        private final Area table;
        final Area log;
        private int end; // of the log
        private final int[] rows; // of tests: where one with such bits is; where one of such a length is that others differ from
        private int left; // applications that may still come
        // The interval at hand.
        int now;
        boolean isOpen;
        private int act;
        private int waited;
        private long gift;
        private int flags; // END_SET is for the segment at hand
        private int extras;
        private final Area tests; // of the segment at hand
        private int testCount;
        private final Area passedTests;
        private int passedCount;
        private int firstPassed;
        private long firstGift;
        private int passedBodies;
        private long[] loaded; // tests that are looked at

        History(Area room) {
            table = new Area(room, MOST_BLOCKS);
            log = new Area(room, MOST_BLOCKS);
            tests = new Area(room, MOST_BLOCKS);
            passedTests = new Area(room, MOST_BLOCKS);
            loaded = new long[1];
            rows = new int[ROWS + BASES];
            end = 1;
        }

        // ---- room

        /** How many blocks are missing for so many words of the log, and the next intervals. */
        int blocksFor(int words) {
            int ofLog = end + words - log.words() + BLOCK_MASK >> BLOCK_BITS;
            int ofTable = (now + 3) * WORDS - table.words() + BLOCK_MASK >> BLOCK_BITS;
            return Math.max(0, ofLog) + Math.max(0, ofTable);
        }

        int blocks() {
            return log.countOfBlocks() + table.countOfBlocks();
        }

        void take(int words) {
            log.reach(end + words);
            table.reach((now + 3) * WORDS);
        }

        /** Tells how many applications may still come. */
        void setLeft(int applications) {
            left = applications;
        }

        /** Whether there is room for so many words, if that many are left for each application. */
        private boolean hasRoomFor(int words, int wordsOfApplication) {
            int needed = words + (now + 2) * (WORDS + 1) + left * wordsOfApplication + SPARE_WORDS;
            return end + needed < MOST_OF_HISTORY * BLOCK_WORDS;
        }

        /** Whether there is room for what need not be held. */
        boolean isRoomy() {
            return hasRoomFor(0, WORDS_WITH_TESTS);
        }

        /** Whether there may be so many intervals besides those of the applications. */
        boolean hasSpareIntervals(int count) {
            boolean areNumbered = now + left + SPARE_INTERVALS + count <= MOST_INTERVALS;
            return areNumbered && hasRoomFor(count * (WORDS + 1), WORDS_WITH_ALL);
        }

        // ---- the log

        long word(int place) {
            return log.get(place);
        }

        /** Puts a word behind the log; where it is. */
        int add(long word) {
            log.put(end, word);
            end++;
            return end - 1;
        }

        int addTwo(long word, long other) {
            log.put(end, word);
            log.put(end + 1, other);
            end += 2;
            return end - 2;
        }

        void addExtra(int type, long info) {
            log.put(end, type | (long) extras << TYPE_BITS | info << INFO_SHIFT);
            extras = end;
            end++;
        }

        // ---- the interval at hand

        /** Begins with the body of a procedure, or a program. */
        void openBody(int code, int behind, int around, boolean hasVariables, int sets) {
            long head = BEGUN | (hasVariables ? HAS_VARIABLES : 0) | (long) sets << SETS_PLACE;
            open(head | (long) code << CODE_SHIFT | (long) behind << BEHIND_SHIFT, around);
            act = now;
        }

        private void open(long head, int around) {
            now++;
            table.put(now * WORDS, head);
            table.put(now * WORDS + 1, around);
            isOpen = true;
            waited = 0;
            gift = 0;
            flags = 0;
            extras = 0;
            testCount = 0;
            firstPassed = 0;
            passedCount = 0;
            passedBodies = 0;
        }

        /** Begins with what waits, and a value that is given to it. */
        void openWith(int frame, long given) {
            act = actOf(frame, END);
            open(0, 0);
            waited = frame;
            gift = given;
        }

        /** Goes on with what waits, and a value that is given to it, behind another body in the interval. */
        void goOnWith(int frame, long given) {
            act = actOf(frame, END);
            waited = frame;
            gift = given;
            testCount = 0;
        }

        /** Lets the segment at hand be one that was passed, or the START. */
        void passOn() {
            boolean isSet = (flags & END_SET) != 0;
            flags &= ~END_SET;
            if (waited == 0 && isSet) {
                flags |= START_SET;
                addTests(START);
            }
            if (waited == 0) {
                return;
            }
            if (isSet && (flags & PASSED_SET) == 0) {
                flags |= PASSED_SET;
                firstPassed = waited;
                firstGift = gift;
                passedCount = 0;
                passedBodies = 0;
            }
            if ((flags & PASSED_SET) != 0) {
                for (int i = 0; i < testCount && passedCount <= MOST_TESTS; i++) {
                    putBit(passedTests, passedCount, bit(tests, i));
                    passedCount++;
                }
                passedCount = testCount > MOST_TESTS ? MOST_TESTS + 1 : passedCount;
                passedBodies++;
            }
        }

        /** Notes that a jump arrives, so that what waits may have begun behind a body that was passed. */
        void noteArrival() {
            flags |= isOpen && waited != 0 ? ARRIVED : 0;
        }

        /** Ends the interval at hand, at a place. */
        void close(int place, int moreFlags) {
            flags |= moreFlags;
            long few = testCount <= FEW_TESTS ? inWord(tests, testCount) : 0;
            int base = now * WORDS;
            long around = table.get(base + 1) & INTERVAL_MASK;
            long ended = (long) place << PLACE_SHIFT | (long) waited << WAITED_SHIFT | (long) flags << FLAG_SHIFT;
            table.put(base + 1, around | ended);
            table.put(base + 2, act | (long) extras << EXTRA_SHIFT | few << TESTS_SHIFT);
            table.put(base + 3, gift);
            isOpen = false;
        }

        /** Notes that a variable of an environment is set. */
        void noteSetting(int environment) {
            flags |= END_SET;
            long word = table.get(environment * WORDS + 4);
            long kept = word >>> LAST_SHIFT == now ? word : word & PASSED_BIT - 1;
            table.put(environment * WORDS + 4, kept & (1L << LAST_SHIFT) - 1 | (long) now << LAST_SHIFT);
        }

        /** Notes that variables of an environment were set in a body that was passed in the interval at hand. */
        void notePassed(int environment) {
            table.put(environment * WORDS + 4, table.get(environment * WORDS + 4) | PASSED_BIT);
        }

        /** Whether variables were set in the segment at hand. */
        boolean isSegmentSet() {
            return (flags & END_SET) != 0;
        }

        int actNow() {
            return act;
        }

        int waitedNow() {
            return waited;
        }

        /** How many bodies were passed in the interval at hand, from the first one on in which variables were set. */
        int countOfPassed() {
            return passedBodies;
        }

        // ---- tests

        void noteTest(boolean holds) {
            if (testCount < MOST_TESTS) {
                putBit(tests, testCount, holds ? 1 : 0);
            }
            testCount = Math.min(testCount + 1, MOST_TESTS + 1);
        }

        /** Tests in a word, below a 1. */
        private static long inWord(Area row, int count) {
            return (count == 0 ? 0 : row.get(0)) | 1L << count;
        }

        private static int bit(Area row, int index) {
            return (int) (row.get(index >> 6) >>> (index & 63)) & 1;
        }

        static void putBit(Area row, int index, int bit) {
            int place = index >> 6;
            if ((index & 63) == 0) {
                row.reach(place + 1);
                row.put(place, 0);
            }
            long word = row.get(place) & ~(1L << (index & 63));
            row.put(place, word | (long) bit << (index & 63));
        }

        /** Puts the tests of a segment at hand into an extra, if there is need of it, and room for them. */
        void addTests(int segment) {
            Area row = segment == PASSED ? passedTests : tests;
            int count = segment == PASSED ? passedCount : testCount;
            if (segment == PASSED ? (flags & PASSED_SET) == 0 : segment == END && count <= FEW_TESTS) {
                return;
            }
            boolean isOfWord = count <= TESTS_OF_WORD;
            long content = isOfWord ? inWord(row, count) : 0;
            if (!isOfWord && count <= MOST_TESTS) {
                int hash = hashOf(row, count);
                content = rowOf(row, count, hash);
                if (content == 0 && hasRoomFor(2 + (count >> 5), WORDS_OF_APPLICATION)) {
                    content = addRow(row, count, hash);
                }
            }
            boolean isKnown = content != 0 && (segment == PASSED || hasRoomFor(2, WORDS_OF_APPLICATION));
            if (isKnown || segment == PASSED) {
                addExtra(testsOf(segment), (isKnown ? count : NO_TESTS) | (segment == PASSED && (flags & ARRIVED) != 0 ? JUMPED : 0));
                add(content);
            }
            if (segment == PASSED) {
                add(firstPassed);
                add(firstGift);
            }
        }

        private static int hashOf(Area row, int count) {
            int hash = count;
            for (int i = 0; i < count; i += 64) {
                long word = row.get(i >> 6);
                hash = (hash * 31 + (int) word) * 0x9E3779B1 + (int) (word >>> 32);
            }
            return hash >>> ROWS_SHIFT;
        }

        /** Where such tests are in the log; 0 if that is not known. They may be there as what differs from others. */
        private int rowOf(Area row, int count, int hash) {
            int place = at(rows, hash);
            long head = log.get(place);
            int words = count + 63 >> 6;
            int base = (int) (head >>> BASE_SHIFT) & LINK_MASK;
            int changed = place + 1 + (words + 63 >> 6);
            boolean isSame = place != 0 && (head & NO_TESTS) == count;
            for (int i = 0; i < words && isSame; i++) {
                boolean isOther = base != 0 && (log.get(place + 1 + (i >> 6)) >>> (i & 63) & 1) != 0;
                int from = isOther ? changed : (base == 0 ? place : base) + 1 + i;
                isSame = log.get(from) == row.get(i);
                changed += isOther ? 1 : 0;
            }
            return isSame ? place : 0;
        }

        /** Puts tests into the log; where they are. */
        private int addRow(Area row, int count, int hash) {
            int words = count + 63 >> 6;
            int base = at(rows, ROWS + count % BASES);
            int changed = base == 0 || (log.get(base) & NO_TESTS) != count ? words : countOfChanged(base, row, words);
            int made = end;
            boolean isOther = changed + (words + 63 >> 6) < words - words / 4;
            log.put(made, count | (isOther ? (long) base << BASE_SHIFT | (long) changed << CHANGED_SHIFT : 0));
            end++;
            if (isOther) {
                addChanged(base, row, words);
            } else {
                for (int i = 0; i < words; i++) {
                    log.put(end, row.get(i));
                    end++;
                }
                put(rows, ROWS + count % BASES, made);
            }
            put(rows, hash, made);
            return made;
        }

        private int countOfChanged(int base, Area row, int words) {
            int changed = 0;
            for (int i = 0; i < words; i++) {
                changed += log.get(base + 1 + i) == row.get(i) ? 0 : 1;
            }
            return changed;
        }

        /** Adds which words of a row differ from another one, and these. */
        private void addChanged(int base, Area row, int words) {
            for (int i = 0; i < words; i += 64) {
                long which = 0;
                for (int j = i; j < words && j < i + 64; j++) {
                    which |= log.get(base + 1 + j) == row.get(j) ? 0 : 1L << j - i;
                }
                log.put(end, which);
                end++;
            }
            for (int i = 0; i < words; i++) {
                if (log.get(base + 1 + i) != row.get(i)) {
                    log.put(end, row.get(i));
                    end++;
                }
            }
        }

        private void loadRow(int place) {
            long head = log.get(place);
            int words = (int) (head & NO_TESTS) + 63 >> 6;
            int base = (int) (head >>> BASE_SHIFT) & LINK_MASK;
            int from = (base == 0 ? place : base) + 1;
            for (int i = 0; i < words; i++) {
                putWord(loaded, i, log.get(from + i));
            }
            int changed = place + 1 + (words + 63 >> 6);
            for (int i = 0; i < words && base != 0; i++) {
                if ((log.get(place + 1 + (i >> 6)) >>> (i & 63) & 1) != 0) {
                    putWord(loaded, i, log.get(changed));
                    changed++;
                }
            }
        }

        private static int testsOf(int segment) {
            return segment == START ? START_EXTRA : segment == PASSED ? PASSED_EXTRA : END_EXTRA;
        }

        /** By what the tests of an END or START are known, which is the same for tests that are the same; 0 if they are not. */
        long keyOfTests(int interval, int segment) {
            long noted = segment == END ? table.get(interval * WORDS + 2) >>> TESTS_SHIFT : 0;
            int extra = noted != 0 ? 0 : extraOf(interval, testsOf(segment));
            if (extra == 0) {
                return noted;
            }
            return infoOf(extra) <= TESTS_OF_WORD ? log.get(extra + 1) : OF_ROW | log.get(extra + 1);
        }

        /** Lets the tests of a segment be at hand; how many there are, or -1 if they are not known. */
        int load(int interval, int segment) {
            if (segment == PASSED && interval == now && isOpen) {
                needLoaded(passedCount);
                for (int i = 0; i < passedCount; i += 64) {
                    putWord(loaded, i >> 6, passedTests.get(i >> 6));
                }
                return passedCount > MOST_TESTS ? -1 : passedCount;
            }
            long noted = segment == END ? table.get(interval * WORDS + 2) >>> TESTS_SHIFT : 0;
            int extra = noted != 0 ? 0 : extraOf(interval, testsOf(segment));
            int count = extra == 0 ? NO_TESTS : infoOf(extra) & NO_TESTS;
            if (noted != 0) {
                count = 63 - Long.numberOfLeadingZeros(noted);
            }
            if (count == NO_TESTS) {
                return -1;
            }
            needLoaded(count);
            if (count > TESTS_OF_WORD) {
                loadRow((int) log.get(extra + 1));
            } else {
                putWord(loaded, 0, noted != 0 ? noted : log.get(extra + 1));
            }
            return count;
        }

        /** Lets there be room for so many tests. */
        private void needLoaded(int count) {
            int length = loaded.length;
            for (int i = 0; i < 30 && length << 6 < count; i++) {
                length *= 2;
            }
            loaded = length > loaded.length ? new long[length] : loaded;
        }

        /** Lets tests be at hand that were found: the first of some words of them. */
        void loadWord(int count, int index, long word) {
            needLoaded(count);
            putWord(loaded, index, word);
        }

        /** What a test came to of those that are at hand. */
        boolean isLoadedTest(int index) {
            return (wordAt(loaded, index >> 6) >>> (index & 63) & 1) != 0;
        }

        // ---- what is known of intervals

        /** Whether a variable of an activation may be set somewhere. */
        boolean isSetSomewhere(int activation, int place) {
            return (table.get(activation * WORDS) >>> SETS_PLACE + (place & REST - 1) % SETS_BITS & 1) != 0;
        }

        /** Program and offset of the lambda of an activation. */
        int codeOf(int activation) {
            return (int) (table.get(activation * WORDS) >>> CODE_SHIFT) & (1 << BEHIND_SHIFT - CODE_SHIFT) - 1;
        }

        int programOf(int activation) {
            return codeOf(activation) >>> OFFSET_BITS;
        }

        /** What waits behind the body of an activation. */
        int behind(int activation) {
            return (int) (table.get(activation * WORDS) >>> BEHIND_SHIFT) & LINK_MASK;
        }

        /** The environment that is around the one of an activation. */
        int around(int activation) {
            return (int) table.get(activation * WORDS + 1) & INTERVAL_MASK;
        }

        /** The environment in which a body is evaluated. */
        int environmentOf(int activation) {
            boolean hasVariables = (table.get(activation * WORDS) & HAS_VARIABLES) != 0;
            return hasVariables ? activation : (int) table.get(activation * WORDS + 1) & INTERVAL_MASK;
        }

        /** The activation of an END or START. */
        int actOf(int interval, int segment) {
            if (segment == START) {
                return interval;
            }
            return interval == now && isOpen ? act : (int) table.get(interval * WORDS + 2) & INTERVAL_MASK;
        }

        /** What waited for the value with which an END went on; 0 if it began with a body. */
        int waitedOf(int interval) {
            boolean isAtHand = interval == now && isOpen;
            return isAtHand ? waited : (int) (table.get(interval * WORDS + 1) >>> WAITED_SHIFT) & INTERVAL_MASK;
        }

        /** The value with which the END of an interval went on. */
        long giftOf(int interval) {
            return interval == now && isOpen ? gift : table.get(interval * WORDS + 3);
        }

        /** The place in code where an interval ended; 0 at the end of a body. */
        int placeOf(int interval) {
            return (int) (table.get(interval * WORDS + 1) >>> PLACE_SHIFT) & OFFSET_MASK;
        }

        int flagsOf(int interval) {
            boolean isAtHand = interval == now && isOpen;
            return isAtHand ? flags : (int) (table.get(interval * WORDS + 1) >>> FLAG_SHIFT);
        }

        /** Where an extra of this type is; 0 if there is none. */
        int extraOf(int interval, int type) {
            boolean isAtHand = interval == now && isOpen;
            int extra = isAtHand ? extras : (int) (table.get(interval * WORDS + 2) >>> EXTRA_SHIFT) & LINK_MASK;
            for (int i = 0; i < MAX_STEPS && extra != 0; i++) {
                long word = log.get(extra);
                if ((word & (1 << TYPE_BITS) - 1) == type) {
                    return extra;
                }
                extra = (int) (word >>> TYPE_BITS) & LINK_MASK;
            }
            return 0;
        }

        int infoOf(int extra) {
            return (int) (log.get(extra) >>> INFO_SHIFT);
        }

        int firstPassedOf(int interval) {
            boolean isAtHand = interval == now && isOpen;
            return isAtHand ? firstPassed : (int) log.get(extraOf(interval, PASSED_EXTRA) + 2);
        }

        /** Whether each of the bodies passed in an interval began ahead of the one passed before. */
        boolean arePassedInOrder(int interval) {
            boolean isAtHand = interval == now && isOpen;
            return isAtHand ? (flags & ARRIVED) == 0 : (infoOf(extraOf(interval, PASSED_EXTRA)) & JUMPED) == 0;
        }

        long firstGiftOf(int interval) {
            boolean isAtHand = interval == now && isOpen;
            return isAtHand ? firstGift : log.get(extraOf(interval, PASSED_EXTRA) + 3);
        }

        /** Whether what waits will drop the value that it waits for. */
        boolean drops(int frame) {
            return frame > 0 && frame < SPECIAL && (table.get(frame * WORDS + 1) >>> FLAG_SHIFT & DROPPING) != 0;
        }

        // ---- what was set

        long maskOf(int interval) {
            return table.get(interval * WORDS + 4) & (1L << MASK_BITS) - 1;
        }

        void addToMask(int interval, long bits) {
            table.put(interval * WORDS + 4, table.get(interval * WORDS + 4) | bits);
        }

        /** In which interval a variable of an environment was set at last; 0 if none was. */
        int lastOf(int environment) {
            return (int) (table.get(environment * WORDS + 4) >>> LAST_SHIFT);
        }

        /** Whether a variable of an environment may have been set in an interval ahead of its END. */
        boolean isPassedIn(int interval, int environment) {
            long word = table.get(environment * WORDS + 4);
            return word >>> LAST_SHIFT != interval || (word & PASSED_BIT) != 0;
        }
    }

    /**
     * What variables are set to: in the interval at hand; as far as it is remembered now; and in which intervals some
     * variable may have been set. For that each interval has a mask, and so have blocks of 8, 64, 512 and 4096 of them, in
     * which a variable has one bit; the first bit stands for all variables. Now and then there is an anchor: all variables
     * of older environments that were set since the last one, with what they are.
     *
     * <p>What a variable was ahead of the interval at hand (or of the body in it from which on settings are known) may be put
     * in place of a value, so that it need not be found if nothing looks at it.
     */
    private static final class Settings {
        static final int ANY = 4095; // in place of a variable: any of an environment
        static final int GLOBALS = 64;
        private static final int HEADS = 4096;
        private static final int HEADS_SHIFT = 20;
        private static final int NEXT_SHIFT = 32;
        private static final int MOST = 1 << 17;
        private static final int FORGET = 2048; // more of them are forgotten at the end of a body
        private static final int PASSED = 1 << INTERVAL_BITS; // with an interval in which a variable was set
        private static final int AHEAD_SHIFT = 8;
        private static final int BODY_SHIFT = 40;
        private static final int MOST_KEYS = 24;
        private static final int STABLE = 256;
        private static final int LEAST_STABLE = 8;
        private static final int MASK_LEVELS = 4;
        private static final int GROUP_BITS = 12;
        private static final int WORDS_OF_GROUP = 3840;
        private static final int OWN_BITS = 43; // of the mask of an interval, besides the first one
        private static final int KEY_BITS = 12;
        // Of what is remembered: words, two for each variable; how many there are without need, how many if there is need.
        private static final int LEAST_CACHE = 256;
        private static final int MOST_CACHE = 1 << 18;
        private static final int MOST_LASTING = 1 << 22;
        private static final int ROW_WORDS = 8;
        private static final int ROW_SHIFT = 3;
        private static final int SIDE_SHIFT = 2;
        private static final int HASH_SHIFT = 5;
        // The head of one: the variable, a stamp, whether it lasts; so what may be forgotten first has the least head.
        private static final int STAMP_SHIFT = 32;
        private static final int STAMP_STEP = 32;
        private static final long LASTING = 1L << 52;
        private static final int FEW_INTERVALS = 1 << 15; // with no more of them, more is remembered
        static final int MOST_RECENT = 2048;
        private static final int RECENT_SHIFT = 20;
        private static final int ROWS_OF_RECENT = 1 << 32 - RECENT_SHIFT;
        private static final int LEAST_ELAPSED = 64;
        private static final int PLACE_SHIFT = 20; // of the table of an anchor
        private static final long COMPLETE = 1L << 48;

        private final History history;
        // The settings of the interval at hand, each in two words: variable and the next one with such a hash; content.
        private final Area entries;
        private final int[] heads;
        int count;
        private int noted; // of them, that they were set in a body that was passed
        private int base; // of bodies passed behind which all are known; -1 if all of the interval are
        private final int[] globals; // in which intervals global variables were set at last
        private final int[] stable; // environments that were set of late, in how many intervals
        private final long[] earlier; // environments that were set of late: in which interval before, and in which
        // Variables that were set since the last anchor.
        private final int[] recent; // hash rows, and behind these the variables
        int recentCount;
        private boolean areAllRecent;
        private final Area anchors;
        private int anchorCount;
        // What variables are now, as far as it is remembered: in rows, variable and when it was wanted at last; value.
        private final Area cache;
        private int cacheWords;
        private int cached;
        private int lasting; // those of them that could not be found soon
        boolean isMerging; // settings are no longer found soon, if a body ends behind them
        private final Area masks;

        Settings(Area room, History history) {
            this.history = history;
            entries = new Area(room, MOST_BLOCKS);
            heads = new int[HEADS];
            base = -1;
            globals = new int[GLOBALS];
            stable = new int[2 * STABLE];
            earlier = new long[STABLE];
            recent = new int[ROWS_OF_RECENT + MOST_RECENT];
            areAllRecent = true;
            anchors = new Area(room, MOST_BLOCKS);
            cache = new Area(room, MOST_BLOCKS);
            cacheWords = LEAST_CACHE;
            cache.reach(cacheWords);
            masks = new Area(room, MOST_BLOCKS);
        }

        private static int hashOf(int environment, int place) {
            int hash = (environment * 0x9E3779B1 + place * 0x7FEB352D) * 0x85EBCA6B;
            return (hash ^ hash >>> 15) * 0x2C1B3C6D;
        }

        static int keyOf(int environment, int place) {
            return environment << KEY_BITS | place;
        }

        /** In place of a value: what a variable was ahead. */
        static long ahead(int environment, int place) {
            return 1 << VALUE_BITS | (long) keyOf(environment, place) << AHEAD_SHIFT;
        }

        static boolean isValue(long content) {
            return (content & VALUE_MASK) != 0;
        }

        /** In place of a value: what a variable was ahead of one of the bodies that were passed in an interval. */
        static long aheadOfBody(int environment, int place, int body) {
            return ahead(environment, place) | (long) body << BODY_SHIFT;
        }

        static int environmentAhead(long content) {
            return (int) (content >>> AHEAD_SHIFT + KEY_BITS) & INTERVAL_MASK;
        }

        static int bodyAhead(long content) {
            return (int) (content >>> BODY_SHIFT);
        }

        static int placeAhead(long content) {
            return (int) (content >>> AHEAD_SHIFT) & (1 << KEY_BITS) - 1;
        }

        // ---- the interval at hand

        /** The setting of a variable in the interval at hand; -1 if there is none. */
        int settingOf(int environment, int place) {
            int setting = count > 0 ? at(heads, hashOf(environment, place) >>> HEADS_SHIFT) - 1 : -1;
            int key = keyOf(environment, place);
            for (int i = 0; i < MOST && setting >= 0; i++) {
                long word = entries.get(2 * setting);
                if ((int) word == key) {
                    return setting;
                }
                setting = (int) (word >>> NEXT_SHIFT) - 1;
            }
            return -1;
        }

        /** Lets a variable be set, to a value or to what another one was ahead. */
        void set(int environment, int place, long content) {
            int setting = settingOf(environment, place);
            if (setting < 0 && count < MOST) {
                int head = hashOf(environment, place) >>> HEADS_SHIFT;
                setting = count;
                entries.reach(2 * count + 2);
                entries.put(2 * setting, keyOf(environment, place) | (long) at(heads, head) << NEXT_SHIFT);
                put(heads, head, setting + 1);
                count++;
                int last = history.lastOf(environment);
                if (environment != 0 && last < history.now) {
                    putWord(earlier, environment & STABLE - 1, environment | (long) last << 20 | (long) history.now << 40);
                }
            }
            history.noteSetting(environment);
            entries.put(2 * setting + 1, content);
            if (environment == 0 && (at(globals, place) & INTERVAL_MASK) != history.now) {
                put(globals, place, history.now);
            }
        }

        int environmentOf(int setting) {
            return (int) entries.get(2 * setting) >>> KEY_BITS;
        }

        int placeOf(int setting) {
            return (int) entries.get(2 * setting) & (1 << KEY_BITS) - 1;
        }

        long contentOf(int setting) {
            return entries.get(2 * setting + 1);
        }

        void setContent(int setting, long value) {
            entries.put(2 * setting + 1, value);
        }

        /** Goes on behind a body; if much is known of the interval at hand, it is forgotten. */
        void pass() {
            for (; noted < count; noted++) {
                int environment = environmentOf(noted);
                if (environment == 0) {
                    put(globals, placeOf(noted), history.now | PASSED);
                } else {
                    history.notePassed(environment);
                }
            }
            if (count > FORGET) {
                forgetAll();
                base = history.countOfPassed();
            }
        }

        private void forgetAll() {
            for (int i = 0; i < count; i++) {
                put(heads, hashOf(environmentOf(i), placeOf(i)) >>> HEADS_SHIFT, 0);
            }
            count = 0;
            noted = 0;
        }

        /** Whether a variable may have been set in an interval ahead of its END. */
        boolean isPassedIn(int interval, int environment, int place) {
            if (environment != 0) {
                return history.isPassedIn(interval, environment);
            }
            int last = at(globals, place);
            return (last & INTERVAL_MASK) != interval || (last & PASSED) != 0;
        }

        /** How many bodies were passed behind which all settings are known; -1 if all of the interval at hand are. */
        int base() {
            return base;
        }

        /** Lets the settings at hand be those of an interval that has ended, perhaps with an anchor. */
        void commit(int interval, boolean isAnchored) {
            int runs = base >= 0 ? MOST_KEYS + 1 : 0;
            for (int i = 0; i < count && runs <= MOST_KEYS; i++) {
                runs += isRunBegun(i) ? 1 : 0;
            }
            if (runs > MOST_KEYS) {
                markAll(interval);
            }
            for (int i = 0; i < count; i++) {
                int environment = environmentOf(i);
                if (isRunBegun(i)) {
                    noteStable(environment);
                }
                boolean isOwn = count <= MOST_KEYS && isStable(environment);
                if (runs <= MOST_KEYS && (isOwn || isRunBegun(i))) {
                    mark(interval, hashOf(environment, isOwn ? placeOf(i) : ANY));
                }
            }
            if (!isAnchored) {
                addRecent();
                areAllRecent = areAllRecent && base < 0;
            }
            boolean isLarge = count > FORGET;
            forgetAll();
            if (isLarge) {
                entries.cut(0);
            }
            base = -1;
            isMerging = !history.hasSpareIntervals(1);
            if (cached > cacheWords >> 2 && cacheWords < MOST_CACHE) {
                growCache();
            }
        }

        private boolean isRunBegun(int setting) {
            return setting == 0 || environmentOf(setting - 1) != environmentOf(setting);
        }

        /** Counts the intervals in which variables of an environment were set. */
        private void noteStable(int environment) {
            int row = environment % STABLE * 2;
            int times = at(stable, row) == environment ? at(stable, row + 1) : 0;
            put(stable, row, environment);
            put(stable, row + 1, Math.min(times + 1, LEAST_STABLE));
        }

        private boolean isStable(int environment) {
            int row = environment % STABLE * 2;
            return environment == 0 || at(stable, row) == environment && at(stable, row + 1) >= LEAST_STABLE;
        }

        // ---- anchors

        /** Counts those that are set in the interval at hand to the ones that were set since the last anchor. */
        void addRecent() {
            int last = lastAnchor();
            for (int i = 0; i < count && areAllRecent; i++) {
                int key = (int) entries.get(2 * i);
                if (key >>> KEY_BITS <= last) {
                    noteRecent(key);
                }
            }
        }

        private void noteRecent(int key) {
            int row = key * 0x9E3779B1 >>> RECENT_SHIFT;
            for (int i = 0; i < ROWS_OF_RECENT; i++) {
                int found = at(recent, row) - 1;
                if (found < 0 && recentCount >= MOST_RECENT) {
                    areAllRecent = false;
                } else if (found < 0) {
                    put(recent, ROWS_OF_RECENT + recentCount, key);
                    recentCount++;
                    put(recent, row, recentCount);
                }
                if (found < 0 || at(recent, ROWS_OF_RECENT + found) == key) {
                    return;
                }
                row = row + 1 & ROWS_OF_RECENT - 1;
            }
        }

        private int lastAnchor() {
            return anchorCount == 0 ? 0 : (int) anchors.get(anchorCount - 1) & INTERVAL_MASK;
        }

        boolean isAnchorDue() {
            return history.now - lastAnchor() >= LEAST_ELAPSED + recentCount / 2 && history.isRoomy();
        }

        /** The variables of which the values are to be at hand for an anchor. */
        int countOfAnchor() {
            return areAllRecent && base < 0 ? recentCount : 0;
        }

        private int recentKey(int index) {
            return at(recent, ROWS_OF_RECENT + index);
        }

        int recentEnvironment(int index) {
            return recentKey(index) >>> KEY_BITS;
        }

        int recentPlace(int index) {
            return recentKey(index) & (1 << KEY_BITS) - 1;
        }

        /** Puts an anchor at the interval at hand, with what these variables are. */
        void addAnchor(long[] values) {
            int held = countOfAnchor();
            long table = history.add(held);
            for (int i = 0; i < ROWS_OF_RECENT && recentCount > 0; i++) {
                put(recent, i, 0);
            }
            sortRecent(held, values);
            for (int i = 0; i < held; i++) {
                history.addTwo(recentKey(i), wordAt(values, i));
            }
            boolean isComplete = areAllRecent && base < 0;
            anchors.reach(anchorCount + 1);
            anchors.put(anchorCount, history.now | table << PLACE_SHIFT | (isComplete ? COMPLETE : 0));
            anchorCount++;
            recentCount = 0;
            areAllRecent = true;
        }

        /** Puts the variables in order, and their values with them. */
        private void sortRecent(int held, long[] values) {
            int step = 1;
            for (int i = 0; i < 20 && step < held / 9; i++) {
                step = 3 * step + 1;
            }
            for (; step > 0; step /= 3) {
                for (int i = step; i < held; i++) {
                    int key = recentKey(i);
                    long value = wordAt(values, i);
                    int j = i;
                    for (; j >= step && recentKey(j - step) > key; j -= step) {
                        put(recent, ROWS_OF_RECENT + j, recentKey(j - step));
                        putWord(values, j, wordAt(values, j - step));
                    }
                    put(recent, ROWS_OF_RECENT + j, key);
                    putWord(values, j, value);
                }
            }
        }

        /** The first anchor at an interval or behind it; -1 if there is none, or it is not ahead of another interval. */
        int anchorAt(int interval, int ahead) {
            int low = 0;
            int high = anchorCount;
            for (int i = 0; i < 32 && low < high; i++) {
                int middle = low + high >>> 1;
                if (((int) anchors.get(middle) & INTERVAL_MASK) < interval) {
                    low = middle + 1;
                } else {
                    high = middle;
                }
            }
            return low < anchorCount && ((int) anchors.get(low) & INTERVAL_MASK) < ahead ? low : -1;
        }

        /** The interval of the anchor before. */
        int intervalBefore(int anchor) {
            return anchor <= 0 ? 0 : (int) anchors.get(anchor - 1) & INTERVAL_MASK;
        }

        /** Whether an anchor has all variables of an environment that were set since the one before it. */
        boolean isComplete(int anchor, int environment) {
            return (anchors.get(anchor) & COMPLETE) != 0 && environment <= intervalBefore(anchor);
        }

        /** What a variable was at an anchor; 0 if it was not set since the one before it. */
        long anchored(int anchor, int environment, int place) {
            int table = (int) (anchors.get(anchor) >>> PLACE_SHIFT) & LINK_MASK;
            int key = keyOf(environment, place);
            int low = 0;
            int high = (int) history.word(table);
            for (int i = 0; i < 32 && low < high; i++) {
                int middle = low + high >>> 1;
                int found = (int) history.word(table + 1 + 2 * middle);
                if (found == key) {
                    return history.word(table + 2 + 2 * middle);
                }
                low = found < key ? middle + 1 : low;
                high = found < key ? high : middle;
            }
            return 0;
        }

        // ---- what is remembered

        /** Where the row of a variable begins. Variables that are side by side have one row. */
        private int rowOf(int key) {
            int hash = (key >>> SIDE_SHIFT) * 0x9E3779B1;
            hash = (hash ^ hash >>> 15) * 0x2C1B3C6D;
            return (hash >>> HASH_SHIFT & (cacheWords >> ROW_SHIFT) - 1) << ROW_SHIFT;
        }

        /** Where the other row begins in which a variable can be. */
        private int otherRowOf(int key) {
            int hash = key * 0x85EBCA6B;
            hash = (hash ^ hash >>> 13) * 0x7FEB352D;
            return (hash >>> HASH_SHIFT & (cacheWords >> ROW_SHIFT) - 1) << ROW_SHIFT;
        }

        /** What a variable is now; 0 if that is not remembered. */
        long known(int environment, int place) {
            int key = keyOf(environment, place);
            int way = wayOf(rowOf(key), key);
            way = way < 0 ? wayOf(otherRowOf(key), key) : way;
            if (way < 0) {
                return 0;
            }
            long head = cache.get(way);
            if (((int) (head >>> STAMP_SHIFT) & INTERVAL_MASK) + STAMP_STEP < history.now) {
                cache.put(way, head & ~((long) INTERVAL_MASK << STAMP_SHIFT) | (long) history.now << STAMP_SHIFT);
            }
            return cache.get(way + 1);
        }

        /** Where a variable is in a row; -1 if it is not there. */
        private int wayOf(int row, int key) {
            long[] block = cache.blockAt(row);
            int first = row & BLOCK_MASK;
            for (int i = first; block != null && i < block.length && i < first + ROW_WORDS; i += 2) {
                if ((int) block[i] == key) {
                    return row + i - first;
                }
            }
            return -1;
        }

        /** Where a variable is in a row; if it is not there, ~ of where what is there may be forgotten first. */
        private int wayFor(int row, int key) {
            long[] block = cache.blockAt(row);
            int first = row & BLOCK_MASK;
            long least = Long.MAX_VALUE;
            int loose = first;
            for (int i = first; block != null && i < block.length && i < first + ROW_WORDS; i += 2) {
                long head = block[i];
                if ((int) head == key) {
                    return row + i - first;
                }
                loose = head < least ? i : loose;
                least = Math.min(least, head);
            }
            return ~(row + loose - first);
        }

        /** Lets it be remembered what a variable of the newest environment is, unless others are to last there. */
        void rememberNew(int environment, int place, long value) {
            int key = keyOf(environment, place);
            int way = wayFor(rowOf(key), key);
            way = way < 0 ? ~way : way;
            if (cache.get(way) != 0 && cached < (cacheWords >> 2) + (cacheWords >> 3)) {
                int second = ~wayFor(otherRowOf(key), key);
                way = second >= 0 && cache.get(second) < cache.get(way) ? second : way;
            }
            long before = cache.get(way);
            if ((before & LASTING) == 0) {
                cached += before == 0 ? 1 : 0;
                cache.put(way, key | (long) history.now << STAMP_SHIFT);
                cache.put(way + 1, value);
            }
        }

        /** Lets it be remembered what a variable is now, longer if it could not be found soon; 0 lets it be forgotten. */
        void remember(int environment, int place, long value, boolean isLasting) {
            int key = keyOf(environment, place);
            int way = wayOf(rowOf(key), key);
            way = way < 0 ? wayOf(otherRowOf(key), key) : way;
            boolean isKept = isLasting || way >= 0 && (cache.get(way) & LASTING) != 0;
            if (way < 0 && value == 0) {
                return;
            }
            if (way < 0) {
                way = ~wayFor(rowOf(key), -1);
                int second = ~wayFor(otherRowOf(key), -1);
                way = cache.get(second) < cache.get(way) ? second : way;
                way = (cache.get(way) & LASTING) != 0 ? freeWay(rowOf(key), otherRowOf(key), way) : way;
            }
            long before = cache.get(way);
            long kind = value != 0 && isKept ? LASTING : 0;
            if (((before ^ kind) & LASTING) != 0 || before == 0) {
                cached += before == 0 ? 1 : 0;
                lasting += (kind != 0 ? 1 : 0) - ((before & LASTING) != 0 ? 1 : 0);
            }
            cache.put(way, key | kind | (long) history.now << STAMP_SHIFT);
            cache.put(way + 1, value);
        }

        /** Lets a place in one of two rows be free by putting what is there into its other row; another place if there is none. */
        private int freeWay(int row, int other, int another) {
            for (int i = 0; i < 2 * ROW_WORDS; i += 2) {
                int way = i < ROW_WORDS ? row + i : other + i - ROW_WORDS;
                long head = cache.get(way);
                int home = rowOf((int) head);
                int to = home == way >> ROW_SHIFT << ROW_SHIFT ? otherRowOf((int) head) : home;
                for (int free = to; free < to + ROW_WORDS; free += 2) {
                    if ((cache.get(free) & LASTING) == 0) {
                        cached -= cache.get(free) == 0 ? 0 : 1;
                        cache.put(free, head);
                        cache.put(free + 1, cache.get(way + 1));
                        cache.put(way, 0);
                        return way;
                    }
                }
            }
            return another;
        }

        /** Puts what is at a place to another one, where nothing is left then. */
        private void move(int from, int to) {
            cached -= cache.get(to) == 0 ? 0 : 1;
            cache.put(to, cache.get(from));
            cache.put(to + 1, cache.get(from + 1));
            cache.put(from, 0);
            cache.put(from + 1, 0);
        }

        /** Lets twice as much be remembered, if there is room: what is in a row stays, or goes to the one that is new for it. */
        void growCache() {
            int before = cacheWords;
            if (!cache.reach(2 * before)) {
                return;
            }
            for (int way = 0; way < before; way += 2) {
                int key = (int) cache.get(way);
                cacheWords = before;
                boolean isAtHome = rowOf(key) == way >> ROW_SHIFT << ROW_SHIFT;
                cacheWords = 2 * before;
                int row = isAtHome ? rowOf(key) : otherRowOf(key);
                if (key != 0 && row >= before) {
                    move(way, way + before);
                }
            }
            cacheWords = 2 * before;
        }

        /** Lets half as much be remembered. */
        void shrinkCache() {
            int half = cacheWords >> 1;
            for (int way = half; way < 2 * half; way += 2) {
                long head = cache.get(way);
                int free = ~wayFor(way - half >> ROW_SHIFT << ROW_SHIFT, -1);
                if (head > cache.get(free)) {
                    lasting -= (cache.get(free) & LASTING) != 0 ? 1 : 0;
                    move(way, free);
                } else if (head != 0) {
                    cached--;
                    lasting -= (head & LASTING) != 0 ? 1 : 0;
                }
            }
            cacheWords = half;
            cache.cut(half);
        }

        /** How many blocks more there must be, so that nothing is forgotten that could not be found soon. */
        int blocksForCache() {
            boolean isFull = cacheWords >= MOST_CACHE && lasting > (cacheWords >> 2) + (cacheWords >> 4);
            return isFull && cacheWords < MOST_LASTING ? cacheWords + BLOCK_MASK >> BLOCK_BITS : 0;
        }

        /** Whether it takes long to find what is forgotten, as there are not enough intervals. */
        boolean isFindingSlow() {
            return !history.hasSpareIntervals(FEW_INTERVALS);
        }

        boolean isCacheLarge() {
            return cacheWords > MOST_CACHE;
        }

        // ---- masks

        int blocksFor(int interval) {
            int lacking = ((interval >> GROUP_BITS) + 1) * WORDS_OF_GROUP - masks.words();
            return Math.max(0, lacking + BLOCK_MASK >> BLOCK_BITS);
        }

        void take(int interval) {
            masks.reach(((interval >> GROUP_BITS) + 1) * WORDS_OF_GROUP);
        }

        int blocks() {
            return masks.countOfBlocks() + anchors.countOfBlocks() + Math.max(0, cache.countOfBlocks() - BLOCKS_OF_CACHE);
        }

        /** Where the mask of the block around an interval begins, at a level from 1 to 4. */
        private static int placeOfMask(int level, int interval) {
            int before = level == 1 ? 0 : level == 2 ? 2048 : level == 3 ? 3072 : 3584;
            int inside = interval & (1 << GROUP_BITS) - 1;
            return (interval >> GROUP_BITS) * WORDS_OF_GROUP + before + (inside >> 3 * level << 2 * level);
        }

        /** The bit of a variable in a mask of a level, never the first one. */
        private static int bitOf(int level, int hash) {
            return level == 0 ? 1 + (hash >>> 8) % OWN_BITS : Math.max(1, hash >>> 26 - 2 * level);
        }

        private void mark(int interval, int hash) {
            history.addToMask(interval, 1L << bitOf(0, hash));
            for (int level = 1; level <= MASK_LEVELS; level++) {
                int bit = bitOf(level, hash);
                int word = placeOfMask(level, interval) + (bit >> 6);
                masks.put(word, masks.get(word) | 1L << (bit & 63));
            }
        }

        private void markAll(int interval) {
            history.addToMask(interval, 1);
            for (int level = 1; level <= MASK_LEVELS; level++) {
                int word = placeOfMask(level, interval);
                masks.put(word, masks.get(word) | 1);
            }
        }

        private boolean isMarked(int level, int interval, int hash, int other) {
            int place = placeOfMask(level, interval);
            int one = bitOf(level, hash);
            int two = bitOf(level, other);
            return (masks.get(place + (one >> 6)) >>> (one & 63) & 1) != 0
                    || (masks.get(place + (two >> 6)) >>> (two & 63) & 1) != 0
                    || (masks.get(place) & 1) != 0;
        }

        /** Up to which interval, ahead of another one, a variable may have been set, as far as that is known at once. */
        int lastPossible(int environment, int place, int ahead) {
            if (environment == 0) {
                int last = at(globals, place) & INTERVAL_MASK;
                return last < ahead ? last : ahead - 1;
            }
            int last = Math.min(history.lastOf(environment), ahead - 1);
            long noted = wordAt(earlier, environment & STABLE - 1);
            int from = (int) (noted >>> 20) & INTERVAL_MASK;
            boolean isOfIt = (noted & INTERVAL_MASK) == environment && last < noted >>> 40 && last > from;
            return isOfIt ? from : last;
        }

        /** The last interval up to one, and from another one on, in which a variable may have been set; 0 if none. */
        int lastSetting(int environment, int place, int last, int lowest) {
            int hash = hashOf(environment, place);
            int other = hashOf(environment, ANY);
            long bits = 1 | 1L << bitOf(0, hash) | 1L << bitOf(0, other);
            int interval = last;
            for (int i = 0; i < MAX_STEPS && interval >= lowest && interval > 0; i++) {
                if ((history.maskOf(interval) & bits) != 0) {
                    return interval;
                }
                int level = (interval & 7) == 7 ? MASK_LEVELS : 0;
                for (; level > 0 && isMarked(level, interval, hash, other); level--) {
                    // A block in which it may have been set is looked at in parts.
                }
                interval = level == 0 ? interval - 1 : (interval >> 3 * level << 3 * level) - 1;
            }
            return 0;
        }
    }

    /**
     * Goes through the code of a segment and finds what variables are set to in it, and what the parts of the calls came to
     * that are open at its end, without evaluating anything: as words that tell it by what was ahead of the segment. A word is
     * a value; or GIFT, the value that the segment went on with; or MADE and the place of a lambda; or AHEAD and a variable, as
     * it was ahead. A variable is its place and how far out its environment is.
     *
     * <p>Only for tests values are needed; whoever lets it go asks for them. Walks can be begun within walks. What they came
     * to is kept for a while, once for all segments that take the same way: in a ring, where it is written over by others.
     */
    private static final class Walker {
        // How a walk goes on.
        static final int DONE = 0; // it is at the end
        static final int TESTED = 1; // it needs to be told what a test comes to
        private static final int GOING = 2;
        // Words that are no values, by their bits above those of values.
        static final int GIFT = 1 << VALUE_BITS;
        static final int MADE = 2 << VALUE_BITS;
        static final int AHEAD = 3 << VALUE_BITS;
        static final int SORT_MASK = 63;
        static final int CONTENT_SHIFT = 8;
        static final int OUT_SHIFT = 12; // of a variable
        static final int GLOBAL_OUT = 127;
        static final long NOT_SET = 7 << VALUE_BITS;
        // What is kept of walks: settings, parts of calls; tests; of bodies that were passed their settings and values.
        static final int SETS = 0;
        static final int PARTS = 1;
        static final int TESTS = 2;
        static final int BODIES = 3;
        private static final int HEADS = 1024;
        private static final int HEADS_SHIFT = 22;
        private static final int NEXT_SHIFT = 32;
        static final int COMPOSED = 1 << 31; // in the key of a variable that is told by its environment and place
        private static final int LEAST_RING = 1 << 10;
        private static final int MOST_RING = 1 << 17;
        private static final int INDEX = 1 << 12;
        private static final int INDEX_SHIFT = 20;
        private static final int HEAD_WORDS = 3;
        private static final long KEY_MASK = 0xFFFFFFFFL;
        private static final long IS_THERE = 1L << 40;
        private static final int PLACES = 2;
        private static final int WRITTEN = 4;
        private static final int TESTS_OF_BODIES = 5;
        private static final int LOOKS = 6;
        private static final int RINGS = 7;
        private static final int LOOKS_SHIFT = 20;
        private static final int MOST_LOOKS = 16;
        private static final int TOO_LARGE = 1 << 20; // in place of how often was looked
        private static final int TESTS_OF_BODY = 40;
        private static final int MOST_LEVELS = 1 << 14; // words

        private final Store store;
        private final History history;
        // Of all walks, each behind the one that it is within: forms that wait, in two words; parts of calls; settings, in two
        // words; tests that were not known.
        private final long[] levels;
        private final Area parts;
        private final Area sets;
        private final int[] heads;
        int levelCount;
        int partCount;
        int setCount;
        // The walk at hand: where its forms and settings begin, its program.
        private int firstLevel;
        private int firstSet;
        private int program;
        private int limit; // the place ahead of which it ends; 0 if there is none
        private int tests; // that are at hand
        int seen; // of them
        private int form;
        private int formPlace;
        private boolean isTaking;
        long value;
        // Rings of what is kept of settings and parts, and of tests; where entries are in them; how many words were written;
        // for places where bodies went on, how many tests there were in one; how often was looked into the bodies that were
        // passed in an interval.
        private final long[][] rings;

        Walker(Area room, Store store, History history) {
            this.store = store;
            this.history = history;
            levels = new long[MOST_LEVELS];
            parts = new Area(room, MOST_BLOCKS);
            sets = new Area(room, MOST_BLOCKS);
            heads = new int[HEADS];
            rings = new long[RINGS][LEAST_RING];
            rings[PLACES] = new long[INDEX];
            rings[PLACES + 1] = new long[INDEX];
            rings[TESTS_OF_BODIES] = new long[INDEX];
            rings[LOOKS] = new long[INDEX];
        }

        // ---- walks

        /** Begins with a body, or behind the place where one waited. */
        void beginAt(int newProgram, int body, int place, int newLimit) {
            firstLevel = levelCount;
            firstSet = setCount;
            program = newProgram;
            limit = newLimit;
            if (place == 0) {
                form = SEQUENCE | ACTIVE | body + BODY_PLACE << SLOT_SHIFT;
                formPlace = 0;
                isTaking = false;
            } else {
                openAround(place);
                value = GIFT;
                isTaking = true;
            }
        }

        /** Goes on with a walk that has no tests, at one of them. */
        void take(int levelsBelow, int setsBelow, int newProgram, int newLimit) {
            firstLevel = levelsBelow;
            firstSet = setsBelow;
            program = newProgram;
            limit = newLimit;
            isTaking = true;
            tests = 0;
        }

        /** Tells how many tests there are at hand; none if they are not known. */
        void setTests(int count) {
            tests = Math.max(0, count);
            seen = 0;
        }

        /** Gives up what walks have that came later. */
        void cut(int levelsLeft, int partsLeft, int setsLeft) {
            for (int i = setCount - 1; i >= setsLeft; i--) {
                long word = sets.get(2 * i);
                put(heads, headOf((int) word), (int) (word >>> NEXT_SHIFT));
            }
            setCount = Math.min(setCount, setsLeft);
            partCount = Math.min(partCount, partsLeft);
            levelCount = Math.min(levelCount, levelsLeft);
        }

        /** How many blocks all walks take. */
        int blocks() {
            return parts.countOfBlocks() + sets.countOfBlocks();
        }

        void release() {
            cut(0, 0, 0);
            parts.cut(0);
            sets.cut(0);
        }

        /** Lets the forms wait that are around a place. */
        private void openAround(int place) {
            int content = store.word(program, place) >>> SLOT_SHIFT;
            for (int i = 0; i < MAX_LEVEL && content != 0; i++) {
                int around = store.word(program, content - 2);
                int inside = store.word(program, content - 1) & INDEX_MASK;
                content = around >>> SLOT_SHIFT;
                int tag = around & TAG_MASK;
                boolean isLast = tag == SEQUENCE && store.word(program, content + inside + 1) == 0;
                if (around != 0 && !isLast && (tag != BRANCH || inside == 0)) {
                    push(around, content + inside);
                }
            }
            int low = firstLevel;
            int high = levelCount - 1;
            for (; low < high; low++) {
                long word = wordAt(levels, 2 * low);
                putWord(levels, 2 * low, wordAt(levels, 2 * high));
                putWord(levels, 2 * high, word);
                high--;
            }
            for (int i = firstLevel; i < levelCount; i++) {
                long word = wordAt(levels, 2 * i);
                putWord(levels, 2 * i + 1, partCount | word >>> 32 << 32);
            }
        }

        /** Lets a form wait for the part at a place; parts of it from there on are kept. */
        private void push(int slot, int cursor) {
            putWord(levels, 2 * levelCount, slot & 0xFFFFFFFFL | (long) cursor << 32);
            putWord(levels, 2 * levelCount + 1, partCount | (long) cursor << 32);
            levelCount++;
        }

        private void goTo(int place) {
            form = store.word(program, place);
            formPlace = place;
            isTaking = false;
        }

        private void give(long word) {
            value = word;
            isTaking = true;
        }

        /** Goes on up to the end, or a test that comes to what is not known here. */
        int work() {
            for (int i = 0; i < MAX_STEPS; i++) {
                if (!isTaking) {
                    if (limit != 0 && formPlace == limit && (form & TAG_MASK) != OTHER) {
                        return DONE;
                    }
                    evaluate();
                } else if (levelCount <= firstLevel) {
                    return DONE;
                } else {
                    long level = wordAt(levels, 2 * levelCount - 2);
                    int tag = (int) level & TAG_MASK;
                    if (tag == BRANCH && seen >= tests) {
                        return TESTED;
                    } else if (tag == BRANCH) {
                        choose(history.isLoadedTest(seen));
                        seen++;
                    } else if ((tag == OTHER ? assign((int) (level >>> 32)) : takeValue(level)) != GOING) {
                        return DONE;
                    }
                }
            }
            return DONE;
        }

        /** Goes on with the part that a test chooses. */
        void choose(boolean holds) {
            int content = (int) wordAt(levels, 2 * levelCount - 2) >>> SLOT_SHIFT;
            levelCount--;
            goTo(content + (holds ? 1 : 2));
            if (form == 0) {
                give(NOTHING);
            }
        }

        private void evaluate() {
            int content = form >>> SLOT_SHIFT;
            switch (form & TAG_MASK) {
                case CALL:
                case BRANCH:
                    push(form, content);
                    goTo(content);
                    break;
                case SEQUENCE:
                    if (store.word(program, content + 1) != 0) {
                        push(form, content);
                    }
                    goTo(content);
                    break;
                case LOCAL:
                    giveVariable(content & VARIABLE_MASK | form >>> DEPTH_OUT_SHIFT << OUT_SHIFT);
                    break;
                case GLOBAL:
                    giveVariable(content | GLOBAL_OUT << OUT_SHIFT);
                    break;
                case OTHER:
                    int kind = store.word(program, content);
                    if (kind == LAMBDA || kind == SYNTAX) {
                        give(kind == LAMBDA ? MADE | (long) content << CONTENT_SHIFT : NOTHING);
                    } else {
                        push(form, content);
                        goTo(content + 2);
                    }
                    break;
                case CONSTANT:
                    give(store.valueOf(content));
                    break;
                default:
                    give(store.plainValue(program, content));
            }
        }

        private void giveVariable(int variable) {
            int set = settingOf(variable, firstSet);
            give(set < 0 ? AHEAD | (long) variable << CONTENT_SHIFT : sets.get(2 * set + 1));
        }

        /** Takes the value for the call or sequence that waits for it. */
        private int takeValue(long level) {
            int cursor = (int) (level >>> 32);
            boolean isCall = ((int) level & TAG_MASK) == CALL;
            putWord(levels, 2 * levelCount - 2, level + (1L << 32));
            if (isCall) {
                parts.reach(partCount + 1);
                parts.put(partCount, value);
                partCount++;
            } else {
                levelCount -= store.word(program, cursor + 2) == 0 ? 1 : 0;
            }
            goTo(cursor + 1);
            return isCall && form == 0 ? DONE : GOING;
        }

        private int assign(int node) {
            int around = store.word(program, node - 2);
            int inside = (around & TAG_MASK) == OTHER ? 2 : store.word(program, node - 1) & INDEX_MASK;
            if (limit != 0 && (around >>> SLOT_SHIFT) + inside == limit) {
                return DONE;
            }
            int target = store.word(program, node + 1);
            boolean isLocal = store.word(program, node) == SET_LOCAL;
            int variable = isLocal
                    ? target >>> SLOT_SHIFT & VARIABLE_MASK | target >>> DEPTH_OUT_SHIFT << OUT_SHIFT
                    : target | GLOBAL_OUT << OUT_SHIFT;
            note(variable, value, firstSet);
            levelCount--;
            give(NOTHING);
            return GOING;
        }

        private static int headOf(int key) {
            return key * 0x9E3779B1 >>> HEADS_SHIFT;
        }

        /** Notes what a variable is set to, among settings from one on. */
        private void note(int key, long word, int first) {
            int head = headOf(key);
            int set = at(heads, head) - 1;
            for (int i = 0; i < MAX_STEPS && set >= first && (int) sets.get(2 * set) != key; i++) {
                set = (int) (sets.get(2 * set) >>> NEXT_SHIFT) - 1;
            }
            if (set < first) {
                set = setCount;
                sets.reach(2 * setCount + 2);
                sets.put(2 * set, key & KEY_MASK | (long) at(heads, head) << NEXT_SHIFT);
                put(heads, head, set + 1);
                setCount++;
            }
            sets.put(2 * set + 1, word);
        }

        private int settingOf(int key, int first) {
            int set = at(heads, headOf(key)) - 1;
            for (int i = 0; i < MAX_STEPS && set >= first; i++) {
                long word = sets.get(2 * set);
                if ((int) word == key) {
                    return set;
                }
                set = (int) (word >>> NEXT_SHIFT) - 1;
            }
            return -1;
        }

        /** What a variable is set to in the walk at hand. */
        long settingNow(int variable) {
            int set = settingOf(variable, firstSet);
            return set < 0 ? NOT_SET : sets.get(2 * set + 1);
        }

        // ---- bodies one behind the other

        /** How many variables are set in the walk at hand. */
        int countOfSettings() {
            return setCount - firstSet;
        }

        int variableAt(int index) {
            return (int) sets.get(2 * (firstSet + index));
        }

        long wordOf(int index) {
            return sets.get(2 * (firstSet + index) + 1);
        }

        /** Puts by what was ahead of all bodies what a variable of the walk at hand is set to, until that is composed. */
        void tell(int index, int key, long word) {
            parts.reach(partCount + 2 * index + 2);
            parts.put(partCount + 2 * index, key);
            parts.put(partCount + 2 * index + 1, word);
        }

        /** Lets so many settings that were told take the place of those of the walk at hand, among those from one on. */
        void compose(int count, int first) {
            cut(firstLevel, partCount, firstSet);
            for (int i = 0; i < count; i++) {
                note((int) parts.get(partCount + 2 * i) | COMPOSED, parts.get(partCount + 2 * i + 1), first);
            }
        }

        /** What a variable is set to in all bodies up to now, among settings from one on. */
        long composedSetting(int key, int first) {
            int set = settingOf(key | COMPOSED, first);
            return set < 0 ? NOT_SET : sets.get(2 * set + 1);
        }

        /** What the part of a call at a place came to in the walk at hand, at its end; 0 if it is none of it. */
        long partNow(int place) {
            for (int i = levelCount - 1; i >= firstLevel; i--) {
                long level = wordAt(levels, 2 * i);
                long noted = wordAt(levels, 2 * i + 1);
                int first = (int) (noted >>> 32);
                int count = (int) (level >>> 32) - first;
                if (((int) level & TAG_MASK) == CALL && place >= first && place < first + count) {
                    return parts.get((int) noted + place - first);
                }
            }
            return 0;
        }

        // ---- what is kept

        private static int rowOf(int sort, long start, long tests) {
            int hash = ((int) start * 31 + (int) (start >>> 32)) * 0x9E3779B1 + sort;
            hash = (hash + (int) tests * 0x2C1B3C6D + (int) (tests >>> 32) * 0x7FEB352D) * 0x85EBCA6B;
            return (hash ^ hash >>> 15) * 0x2C1B3C6D >>> INDEX_SHIFT;
        }

        private static int ringOf(int sort) {
            return sort == TESTS ? 1 : 0;
        }

        private long ringWord(int ring, long place) {
            long[] words = rings[ring & 1];
            return wordAt(words, (int) place & words.length - 1);
        }

        private void putRing(int ring, long place, long word) {
            long[] words = rings[ring & 1];
            putWord(words, (int) place & words.length - 1, word);
        }

        /** Where what is kept of this begins; -1 if nothing is. */
        long kept(int sort, long start, long tests) {
            int ring = ringOf(sort);
            long place = wordAt(rings[PLACES + (ring & 1)], rowOf(sort, start, tests)) - 1;
            boolean isThere = place >= 0
                    && place + rings[ring & 1].length >= wordAt(rings[WRITTEN], ring)
                    && ringWord(ring, place) == (start << 2 | sort)
                    && ringWord(ring, place + 1) == tests;
            return isThere ? place : -1;
        }

        /** Begins to keep something of so many words; where it is, or -1 if it is too much. */
        private long keep(int sort, long start, long tests, int words) {
            int ring = ringOf(sort);
            int all = words + HEAD_WORDS;
            long[] row = rings[ring & 1];
            if (row.length < MOST_RING && wordAt(rings[WRITTEN], ring) + all > row.length) {
                int length = row.length;
                for (int i = 0; i < 10 && length < MOST_RING && length < 4L * row.length + 4L * all; i++) {
                    length *= 2;
                }
                rings[ring & 1] = new long[length];
                rings[PLACES + (ring & 1)] = new long[INDEX];
                putWord(rings[WRITTEN], ring, 0);
            }
            if (all > rings[ring & 1].length / 2) {
                return -1;
            }
            long place = wordAt(rings[WRITTEN], ring);
            putRing(ring, place, start << 2 | sort);
            putRing(ring, place + 1, tests);
            putRing(ring, place + 2, words);
            putWord(rings[WRITTEN], ring, place + all);
            putWord(rings[PLACES + (ring & 1)], rowOf(sort, start, tests), place + 1);
            return place;
        }

        /** Keeps what variables are set to, from one setting on; where, or -1 if it is too much. */
        long keepTable(int sort, long start, long tests, int first) {
            int count = setCount - first;
            int size = count == 0 ? 0 : 1;
            for (int i = 0; i < 30 && size < count + count / 4; i++) {
                size *= 2;
            }
            long place = keep(sort, start, tests, sort == BODIES ? 2 * size + 1 : 2 * size);
            for (int i = 0; i < 2 * size && place >= 0; i++) {
                putRing(0, place + HEAD_WORDS + i, 0);
            }
            for (int i = first; i < setCount && place >= 0; i++) {
                int key = (int) sets.get(2 * i);
                int row = key * 0x9E3779B1 >>> 8 & size - 1;
                for (int j = 0; j < size && ringWord(0, place + HEAD_WORDS + 2 * row) != 0; j++) {
                    row = row + 1 & size - 1;
                }
                putRing(0, place + HEAD_WORDS + 2 * row, key & KEY_MASK | IS_THERE);
                putRing(0, place + HEAD_WORDS + 2 * row + 1, sets.get(2 * i + 1));
            }
            if (sort == BODIES && place >= 0) {
                putRing(0, place + HEAD_WORDS + 2 * size, value);
            }
            return place;
        }

        // ---- bodies that were passed

        /** Where it is kept what a body comes to that goes on at a place, by the tests that are next; -1 if that is unknown. */
        long keptBody(long start) {
            int count = (int) wordAt(rings[TESTS_OF_BODIES], rowOf(BODIES, start, 0));
            return seen + count > tests ? -1 : kept(BODIES, start, testsFrom(seen, count));
        }

        /** Goes on behind a body that is kept. */
        void passTests(long kept) {
            seen += 63 - Long.numberOfLeadingZeros(ringWord(0, kept + 1));
        }

        long valueOfKept(long kept) {
            return ringWord(0, kept + HEAD_WORDS + ringWord(0, kept + 2) - 1);
        }

        /** By what tests it is to be kept what a body comes to that was walked through, from one test on; 0 if there are many. */
        long testsOfBody(long start, int firstSeen) {
            int count = seen - firstSeen;
            boolean areFew = count >= 0 && count <= TESTS_OF_BODY && seen <= tests;
            if (areFew) {
                putWord(rings[TESTS_OF_BODIES], rowOf(BODIES, start, 0), count);
            }
            return areFew ? testsFrom(firstSeen, count) : 0;
        }

        /** Some tests in a word, below a 1. */
        private long testsFrom(int first, int count) {
            long word = 1L << count;
            for (int i = 0; i < count; i++) {
                word |= history.isLoadedTest(first + i) ? 1L << i : 0;
            }
            return word;
        }

        /** Counts a look into the bodies passed in an interval; whether all that is set in them is to be kept now. */
        boolean isLookedOften(int interval) {
            int row = interval & INDEX - 1;
            long word = wordAt(rings[LOOKS], row);
            int looks = (int) (word >>> LOOKS_SHIFT);
            looks = (word & INTERVAL_MASK) != interval ? 1 : looks >= TOO_LARGE ? looks : looks >= MOST_LOOKS ? 0 : looks + 1;
            putWord(rings[LOOKS], row, interval | (long) looks << LOOKS_SHIFT);
            return looks == 0;
        }

        void noteTooLarge(int interval) {
            putWord(rings[LOOKS], interval & INDEX - 1, interval | (long) TOO_LARGE << LOOKS_SHIFT);
        }

        /** What a variable is set to, by what is kept. */
        long keptSetting(long place, int key) {
            int size = (int) ringWord(0, place + 2) / 2;
            int row = key * 0x9E3779B1 >>> 8 & size - 1;
            for (int i = 0; i < size; i++) {
                long found = ringWord(0, place + HEAD_WORDS + 2 * row);
                if (found != 0 && (int) found == key) {
                    return ringWord(0, place + HEAD_WORDS + 2 * row + 1);
                }
                if (found == 0) {
                    return NOT_SET;
                }
                row = row + 1 & size - 1;
            }
            return NOT_SET;
        }

        /** Keeps the parts of the calls that are open at the end of the walk at hand. */
        void keepParts(long start, long tests) {
            int calls = 0;
            int words = 0;
            for (int i = firstLevel; i < levelCount; i++) {
                long level = wordAt(levels, 2 * i);
                boolean isCall = ((int) level & TAG_MASK) == CALL;
                calls += isCall ? 1 : 0;
                words += isCall ? (int) (level >>> 32) - (int) (wordAt(levels, 2 * i + 1) >>> 32) : 0;
            }
            long place = keep(PARTS, start, tests, 1 + calls + words);
            if (place < 0) {
                return;
            }
            putRing(0, place + HEAD_WORDS, calls);
            long call = place + HEAD_WORDS + 1;
            long next = call + calls;
            for (int i = firstLevel; i < levelCount; i++) {
                long level = wordAt(levels, 2 * i);
                long noted = wordAt(levels, 2 * i + 1);
                int first = (int) (noted >>> 32);
                int count = (int) (level >>> 32) - first;
                if (((int) level & TAG_MASK) == CALL) {
                    putRing(0, call, first | (long) count << 32);
                    call++;
                    for (int j = 0; j < count; j++) {
                        putRing(0, next, parts.get((int) noted + j));
                        next++;
                    }
                }
            }
        }

        /** What the part of a call at a place came to, by what is kept; 0 if it is none of it. */
        long keptPart(long kept, int place) {
            int calls = (int) ringWord(0, kept + HEAD_WORDS);
            long next = kept + HEAD_WORDS + 1 + calls;
            for (int i = 0; i < calls; i++) {
                long call = ringWord(0, kept + HEAD_WORDS + 1 + i);
                int first = (int) call;
                int count = (int) (call >>> 32);
                if (place >= first && place < first + count) {
                    return ringWord(0, next + place - first);
                }
                next += count;
            }
            return 0;
        }

        /** Keeps tests of a segment that were not known. */
        void keepTests(long start, Area row, int first, int count) {
            int words = count + 63 >> 6;
            long place = keep(TESTS, start, 0, words + 1);
            if (place >= 0) {
                putRing(1, place + HEAD_WORDS, count);
                for (int i = 0; i < words; i++) {
                    putRing(1, place + HEAD_WORDS + 1 + i, row.get(first + i));
                }
            }
        }

        /** Lets tests that are kept be at hand; how many there are. */
        int loadTests(long kept) {
            int count = (int) ringWord(1, kept + HEAD_WORDS);
            int words = count + 63 >> 6;
            for (int i = 0; i < words; i++) {
                history.loadWord(count, i, ringWord(1, kept + HEAD_WORDS + 1 + i));
            }
            return count;
        }
    }

    /**
     * Finds what parts of calls, variables and arguments came to, by the code and by what variables were then, in steps.
     *
     * <p>What a variable was ahead of an interval leads to the last one in which it was set, where a walk tells what it was set
     * to: a value, or what another variable was ahead of that, and so on; or to the argument that it was bound to, so to a part
     * of a call, which is a value or a variable again: one task, without a stack. Only for a test that is not known there is a
     * task within a task; if they are too many, the innermost one is done by itself first. What was found is known for a
     * while, for some steps on the way, too.
     */
    private static final class Finder {
        // What is looked for: a part of a call at a place that was open at the end of an interval; a variable ahead of an
        // interval; one of the arguments of an activation. Known besides: what a variable was behind an interval, what is left
        // of a list of arguments, what tests of bodies that were passed came to.
        private static final int PART = 1;
        private static final int VARIABLE = 2;
        private static final int ARGUMENT = 3;
        private static final int BEHIND = 4;
        private static final int TAIL = 5;
        private static final int TEST = 6;
        private static final int KIND_BITS = 3;
        private static final int SECOND_SHIFT = 22;
        private static final int THIRD_SHIFT = 43;
        // What a task knows: what it is for.
        private static final int KIND = 0;
        private static final int FIRST = 1;
        private static final int SECOND = 2;
        private static final int THIRD = 3;
        private static final int FROM = 4;
        private static final int BOUND = 5;
        private static final int TESTED = 6; // the interval of a test that it is for; or 0
        private static final int TEST_SEEN = 7;
        private static final int TEST_SEGMENT = 8;
        private static final int ROOTS = 9;
        // How far it is: the variable that is looked for, or 0 and the place of a part; in which interval, what is next there,
        // up to which of the bodies passed; ahead of which interval the search began, whether this one is looked at anew.
        private static final int STAGE = 9;
        private static final int ENVIRONMENT = 10;
        private static final int PLACE = 11;
        private static final int LOOKED = 12;
        private static final int NEXT = 13;
        private static final int LIMIT = 14;
        private static final int CEILING = 15;
        private static final int FRESH = 16;
        private static final int FIRST_MARK = 17;
        private static final int LINKS = 18; // steps up to now
        // The walk at hand: segment, what for; what walks around have; tests up to now, whether they are known, where they are.
        private static final int SEGMENT = 19;
        private static final int PURPOSE = 20;
        private static final int LEVELS_BELOW = 21;
        private static final int PARTS_BELOW = 22;
        private static final int SETS_BELOW = 23;
        private static final int SEEN = 24;
        private static final int TESTS = 25;
        private static final int BITS = 26;
        private static final int OUTCOME = 27;
        // Through bodies that were passed: what waited for the one at hand, which one it is; of which body the last setting
        // is, and the value that the one at hand went on with.
        private static final int FRAME = 28;
        private static final int BODY = 29;
        private static final int HIT_BODY = 30;
        private static final int CARRIED_BODY = 31;
        private static final int TEST_ENVIRONMENT = 32; // the variable of a test, up to which of the bodies passed
        private static final int TEST_PLACE = 33;
        private static final int TEST_LIMIT = 34;
        private static final int IS_SET = 35; // what a walk told is what the variable is set to
        private static final int IS_LARGE = 36; // not all is known that was set in the bodies passed
        private static final int SETS_OF_BODY = 37; // where those of the body at hand begin
        private static final int TESTS_AHEAD = 38; // of the body at hand
        private static final int IS_BEGUN = 39; // the first walk of a segment
        private static final int HIT_ACT = 40; // the activations in which the words of HIT and CARRIED are told
        private static final int CARRIED_ACT = 41;
        private static final int OLD = 42; // of environments up to this one all settings in the bodies passed are composed
        private static final int IS_IN_ORDER = 43; // each body passed began ahead of the one passed before
        private static final int FIRST_BODY = 44; // from which one on they are looked at, up to which one
        private static final int STOP = 45;
        private static final int TASK = 46;
        private static final int HIT = 0;
        private static final int CARRIED = 1;
        private static final int TOLD = 2; // by a walk
        private static final int CARRIED_WHOLE = 3; // as CARRIED, by what was ahead of all bodies that were passed
        private static final int TASK_WORDS = 4;
        // Stages.
        private static final int AT_PART = 0;
        private static final int AT_VARIABLE = 1;
        private static final int AT_ARGUMENT = 2;
        private static final int AT_BEGIN = 3;
        private static final int AT_WALK = 4;
        private static final int AT_TEST = 5;
        private static final int AT_REST = 6;
        private static final int AT_WITHIN = 7;
        private static final int AT_TOLD = 8;
        private static final int AT_BODIES = 9;
        private static final int AT_ALL = 10;
        private static final int AT_FIRST = 11;
        // What is next in an interval: its END, what was passed, its START, an interval before.
        private static final int FROM_END = 0;
        private static final int FROM_PASSED = 1;
        private static final int FROM_START = 2;
        private static final int BEFORE = 3;
        private static final int ALL = 1 << 30;
        private static final int NONE = -1;
        private static final long OF_INTERVAL = 1L << 51; // in place of the key of tests
        private static final int MOST_TASKS = 64;
        private static final int STEP_OF_PENDING = 8;
        private static final int MOST_PENDING = 12000;
        private static final int MOST_MARKS = 2048;
        private static final int LEAST_TABLE = 256;
        private static final int MOST_KNOWN = 1 << 17;
        private static final int MOST_PASSES = 1 << 16;
        private static final int MOST_SCRATCH = 600; // blocks
        private static final int FEW_SCRATCH = 32;
        private static final int MOST_COMPOSED = 1 << 17;
        private static final int TAIL_STEP = 32;
        private static final int KNOWN = 0; // tables
        private static final int PASSES = 1;
        private static final int BODIES = 2;
        private static final int INTERVALS_OF_PARTS = 3;
        private static final int TABLES = 4;
        private static final int PART_ROWS = 64;
        private static final int SECOND_OF_ROW = 20;
        private static final int PASSED_OF_OLD = 3; // in place of a segment
        private static final int BODIES_OF_PASS = 64; // what waits at each so many of them is kept
        private static final int PASS_SHIFT = 20;
        private static final int PASS_WORDS = 4;
        private static final int BODY_OF_PASS = 20;

        private final Store store;
        private final History history;
        private final Settings settings;
        private final Walker walker;
        private final int[] tasks;
        private final long[] words; // of tasks
        private int depth; // how many of them there are
        private final long[] marks; // what comes to the same as tasks
        private int marksUsed;
        private final int[] pending; // what is still to be looked for behind what the tasks are for
        private int pendingUsed;
        private final Area bits; // of tests that were not known
        private int bitsUsed; // words
        int wanted; // the program that must be expanded first; or 0
        private long answer; // what was found at last
        private long answerKey;
        private long asked; // what is to be found; or 0
        // What is known; for a variable, in which interval it was set at last ahead of another one; bodies at which passes were,
        // see below; an interval, and in which one a part was found last that was looked for there.
        private final long[][] tables;
        private int forgotten; // of what was known, since there were so many entries

        Finder(Area room, Store store, History history, Settings settings) {
            this.store = store;
            this.history = history;
            this.settings = settings;
            walker = new Walker(room, store, history);
            tasks = new int[TASK * (MOST_TASKS + 1)];
            words = new long[TASK_WORDS * (MOST_TASKS + 1)];
            marks = new long[MOST_MARKS];
            pending = new int[MOST_PENDING];
            bits = new Area(room, MOST_BLOCKS);
            tables = new long[TABLES][LEAST_TABLE];
            tables[BODIES] = new long[PASS_WORDS << 32 - PASS_SHIFT];
        }

        // ---- what is asked for

        private static long keyOf(int kind, int first, int second, int third) {
            return kind | (long) first << KIND_BITS | (long) second << SECOND_SHIFT | (long) third << THIRD_SHIFT;
        }

        private long ask(long key) {
            if (answer != 0 && answerKey == key) {
                return answer;
            }
            asked = key;
            return 0;
        }

        /** What the part of a call at a place came to in what waits; 0 if it is being looked for. */
        long partOf(int frame, int place) {
            return ask(keyOf(PART, frame, place, 0));
        }

        /** What a variable was ahead of the interval at hand, as far as its settings are not known; 0 if it is looked for. */
        long variableAhead(int environment, int place) {
            return ask(keyOf(VARIABLE, environment, place, history.now));
        }

        private long argumentOf(int activation, int index) {
            return ask(keyOf(ARGUMENT, activation, index, 0));
        }

        /** Forgets what was found at last. */
        void forget() {
            answer = 0;
        }

        boolean isBusy() {
            return depth > 0 || asked != 0 || pendingUsed >= ROOTS;
        }

        int takeWanted() {
            int program = wanted;
            wanted = 0;
            return program;
        }

        void drop() {
            asked = 0;
            pendingUsed = 0;
            wanted = 0;
            dropTasks();
            if (walker.blocks() > 0) {
                walker.release();
                bits.cut(0);
            }
        }

        private void dropTasks() {
            depth = 0;
            marksUsed = 0;
            bitsUsed = 0;
            walker.cut(0, 0, 0);
        }

        /** Goes on with looking, until it is found, or a program is wanted. */
        void goOn() {
            growPasses();
            if (asked != 0) {
                beginAsked();
            }
            for (long i = 0; i < MAX_TURNS && (depth > 0 || pendingUsed >= ROOTS) && wanted == 0; i++) {
                if (depth == 0) {
                    beginPending();
                }
                long found = 0;
                switch (noted(STAGE)) {
                    case AT_WITHIN:
                        beginWithin();
                        break;
                    case AT_TOLD:
                        found = take();
                        break;
                    case AT_PART:
                        found = lookAtPart();
                        break;
                    case AT_VARIABLE:
                        found = noted(NEXT) == BEFORE ? lookEarlier() : lookInto(noted(NEXT));
                        break;
                    case AT_ARGUMENT:
                        found = lookAtArgument();
                        break;
                    case AT_BEGIN:
                        beginWalk();
                        break;
                    case AT_FIRST:
                        beginWithBody();
                        break;
                    case AT_BODIES:
                        passBodies();
                        break;
                    case AT_ALL:
                        found = endBodies();
                        break;
                    case AT_TEST:
                        goOnWithWalk();
                        break;
                    case AT_REST:
                        found = view(noted(LOOKED), noted(PLACE), countOfArguments(noted(LOOKED)));
                        break;
                    default:
                        if (walker.work() == Walker.TESTED) {
                            lookAtTest();
                        } else if (noted(SEGMENT) == History.PASSED) {
                            endWalkOfBody();
                            compose();
                            goBehind();
                        } else {
                            endWalk();
                        }
                }
                endTask(found);
            }
            giveRoom();
        }

        /** Gives up what is taken for walks, if it is much and there are none, or if a program that is wanted may need it. */
        private void giveRoom() {
            if (walker.blocks() > FEW_SCRATCH && depth == 0) {
                walker.release();
            } else if (walker.blocks() > MOST_SCRATCH && wanted != 0) {
                putOff();
                walker.release();
            }
        }

        // ---- tasks

        private int noted(int which) {
            int index = (depth - 1) * TASK + which;
            return index >= 0 && index < tasks.length ? tasks[index] : 0;
        }

        private void note(int which, int number) {
            int index = (depth - 1) * TASK + which;
            if (index >= 0 && index < tasks.length) {
                tasks[index] = number;
            }
        }

        private long notedWord(int which) {
            return wordAt(words, (depth - 1) * TASK_WORDS + which);
        }

        private void noteWord(int which, long word) {
            putWord(words, (depth - 1) * TASK_WORDS + which, word);
        }

        private void beginAsked() {
            int kind = (int) asked & (1 << KIND_BITS) - 1;
            int first = (int) (asked >>> KIND_BITS) & INTERVAL_MASK;
            int second = (int) (asked >>> SECOND_SHIFT) & OFFSET_MASK;
            int third = (int) (asked >>> THIRD_SHIFT);
            boolean isPassed = kind == VARIABLE && settings.base() >= 0;
            asked = 0;
            beginTask(kind, first, second, third, isPassed ? FROM_PASSED : BEFORE, settings.base());
        }

        /** Begins with a task; where it looks for a variable, from what is next in an interval on. */
        private void beginTask(int kind, int first, int second, int third, int from, int bound) {
            depth++;
            for (int i = 0; i < TASK; i++) {
                note(i, 0);
            }
            note(KIND, kind);
            note(FIRST, first);
            note(SECOND, second);
            note(THIRD, third);
            note(FROM, from);
            note(BOUND, bound);
            note(FIRST_MARK, marksUsed);
            note(LOOKED, kind == VARIABLE ? third : first);
            note(PLACE, second);
            note(STAGE, kind == PART ? AT_PART : kind == ARGUMENT ? AT_ARGUMENT : AT_VARIABLE);
            if (kind == VARIABLE) {
                lookFor(first, second, from, bound);
            }
        }

        /** Looks for the variable of a test within a task. If there are too many, only some of them are begun again later. */
        private void beginWithin() {
            int interval = noted(LOOKED);
            int segment = noted(SEGMENT);
            int seen = noted(SEEN);
            int environment = noted(TEST_ENVIRONMENT);
            int place = noted(TEST_PLACE);
            int limit = noted(TEST_LIMIT);
            boolean isPlain = (history.flagsOf(interval) & (History.PASSED_SET | History.START_SET)) == 0;
            int from = isPlain || segment == History.START ? BEFORE : FROM_PASSED;
            bitsUsed = noted(BITS) + (seen + 63 >> 6);
            note(STAGE, AT_TEST);
            if (depth >= MOST_TASKS || walker.blocks() > MOST_SCRATCH || marksUsed > MOST_MARKS - LEVELS) {
                putOff();
            }
            beginTask(VARIABLE, environment, place, interval, from, limit);
            note(TESTED, interval);
            note(TEST_SEEN, seen);
            note(TEST_SEGMENT, segment);
        }

        /** Gives up all tasks; some of them are begun again later, the innermost one first. */
        private void putOff() {
            for (int i = 0; i < depth; i += STEP_OF_PENDING) {
                for (int j = 0; j < ROOTS && pendingUsed < MOST_PENDING; j++) {
                    put(pending, pendingUsed + j, at(tasks, i * TASK + j));
                }
                pendingUsed = Math.min(pendingUsed + ROOTS, MOST_PENDING);
            }
            dropTasks();
        }

        private void beginPending() {
            pendingUsed -= ROOTS;
            int kind = at(pending, pendingUsed + KIND);
            int from = at(pending, pendingUsed + FROM);
            int bound = at(pending, pendingUsed + BOUND);
            int third = at(pending, pendingUsed + THIRD);
            beginTask(kind, at(pending, pendingUsed + FIRST), at(pending, pendingUsed + SECOND), third, from, bound);
            note(TESTED, at(pending, pendingUsed + TESTED));
            note(TEST_SEEN, at(pending, pendingUsed + TEST_SEEN));
            note(TEST_SEGMENT, at(pending, pendingUsed + TEST_SEGMENT));
        }

        /** Ends the task at hand, if it is found what it is for. */
        private void endTask(long found) {
            if (found == 0) {
                return;
            }
            if (forgotten > tables[KNOWN].length && tables[KNOWN].length < MOST_KNOWN) {
                growKnown();
            }
            int first = noted(FIRST_MARK);
            for (int i = first; i < marksUsed; i++) {
                know(wordAt(marks, i), found);
            }
            int kind = noted(KIND);
            long key = keyOf(kind, noted(FIRST), noted(SECOND), noted(THIRD));
            if (kind != VARIABLE || noted(FROM) == BEFORE) {
                know(key, found);
            }
            if (depth == 1 && noted(TESTED) != 0) {
                // The walk that it is for is begun again later.
                know(keyOf(TEST, noted(TESTED), noted(TEST_SEEN), noted(TEST_SEGMENT)), found == FALSE ? FALSE : TRUE);
            }
            marksUsed = first;
            depth--;
            if (depth > 0) {
                note(OUTCOME, found == FALSE ? 0 : 1);
            } else if (pendingUsed < ROOTS) {
                answer = found;
                answerKey = key;
            }
        }

        /** Counts a step on the way; what comes to the same as the task is known behind some of them. */
        private void mark(long key) {
            int links = noted(LINKS) + 1;
            note(LINKS, links);
            if ((links & links - 1) == 0 && marksUsed < MOST_MARKS) {
                putWord(marks, marksUsed, key);
                marksUsed++;
            }
        }

        private boolean isLoaded(int program) {
            boolean isThere = store.isLoaded(program);
            wanted = isThere ? wanted : program;
            return isThere;
        }

        // ---- parts

        /** What the part at hand came to; 0 if it is not known yet. */
        private long lookAtPart() {
            int interval = noted(LOOKED);
            int place = noted(PLACE);
            long found = knownFor(keyOf(PART, interval, place, 0));
            int waited = history.waitedOf(interval);
            if (found != 0 || waited != 0 && place == history.placeOf(waited)) {
                return found != 0 ? found : history.giftOf(interval);
            }
            int act = history.actOf(interval, History.END);
            int program = history.programOf(act);
            if (!isLoaded(program)) {
                return 0;
            }
            int evaluated = waited == 0 ? interval : intervalOfPart(program, interval, place);
            int slot = store.word(program, place);
            int content = slot >>> SLOT_SHIFT;
            int tag = slot & TAG_MASK;
            if (tag == CONSTANT) {
                return store.valueOf(content);
            } else if (tag == QUOTATION) {
                return store.plainValue(program, content);
            } else if (evaluated != interval) {
                note(LOOKED, evaluated);
                mark(keyOf(PART, evaluated, place, 0));
                return 0;
            } else if (tag == OTHER) {
                boolean isLambda = store.word(program, content) == LAMBDA;
                return isLambda ? closure(content, act, interval) : NOTHING;
            }
            boolean isVariable = tag == LOCAL || tag == GLOBAL;
            note(SEGMENT, History.END);
            if (isVariable && (history.flagsOf(interval) & History.END_SET) == 0) {
                int out = tag == LOCAL ? slot >>> DEPTH_OUT_SHIFT : Walker.GLOBAL_OUT;
                takeLater(Walker.AHEAD | (long) (content & VARIABLE_MASK | out << Walker.OUT_SHIFT) << Walker.CONTENT_SHIFT);
                return 0;
            }
            long kept = walker.kept(Walker.PARTS, startOf(interval, History.END), testsOf(interval, History.END));
            if (kept >= 0) {
                takeLater(walker.keptPart(kept, place));
                return 0;
            }
            note(PURPOSE, Walker.PARTS);
            note(IS_BEGUN, 0);
            note(STAGE, AT_BEGIN);
            return 0;
        }

        /** The interval in which the body that goes on in an interval came to a part of a call that is still open there. */
        private int intervalOfPart(int program, int interval, int place) {
            long word = wordAt(tables[INTERVALS_OF_PARTS], interval & PART_ROWS - 1);
            int at = (word & INTERVAL_MASK) == interval ? (int) (word >>> SECOND_OF_ROW) : 0;
            if (at == 0 || !isEarlier(program, at, place)) {
                at = interval;
            }
            int waited = history.waitedOf(at);
            // A value that was given is no part of what came earlier.
            for (int i = 0; i < MAX_STEPS && waited != 0 && isEarlier(program, waited, place); i++) {
                at = waited;
                waited = history.waitedOf(at);
            }
            putWord(tables[INTERVALS_OF_PARTS], interval & PART_ROWS - 1, interval | (long) at << SECOND_OF_ROW);
            return at;
        }

        /** Whether a place is that of a part of a call that came ahead of where a segment went on. */
        private boolean isEarlier(int program, int waited, int place) {
            int content = store.word(program, history.placeOf(waited)) >>> SLOT_SHIFT;
            for (int i = 0; i < MAX_LEVEL && content != 0; i++) {
                int around = store.word(program, content - 2);
                int inside = store.word(program, content - 1) & INDEX_MASK;
                content = around >>> SLOT_SHIFT;
                if (around != 0 && (around & TAG_MASK) == CALL && place >= content && place < content + inside) {
                    return true;
                }
            }
            return false;
        }

        static long closure(int offset, int act, int interval) {
            return CLOSURE
                    | (long) offset << VALUE_BITS
                    | (long) act << VALUE_BITS + OFFSET_BITS
                    | (long) interval << VALUE_BITS + OFFSET_BITS + INTERVAL_BITS;
        }

        /** Goes on with what a walk told. */
        private void takeLater(long word) {
            noteWord(TOLD, word);
            note(IS_SET, 0);
            note(STAGE, AT_TOLD);
        }

        /** What a walk through a segment told; 0 if a variable is looked for now. */
        private long take() {
            long word = notedWord(TOLD);
            if (noted(IS_SET) != 0) {
                noteSet();
            }
            if ((word & VALUE_MASK) != 0) {
                return word;
            }
            int interval = noted(LOOKED);
            int segment = noted(SEGMENT);
            int content = (int) (word >>> Walker.CONTENT_SHIFT);
            switch ((int) word & Walker.SORT_MASK) {
                case Walker.GIFT:
                    return history.giftOf(interval);
                case Walker.MADE:
                    return closure(content, history.actOf(interval, segment), interval);
                case Walker.AHEAD:
                    int environment = environmentOf(history.actOf(interval, segment), content >>> Walker.OUT_SHIFT);
                    lookFor(environment, content & VARIABLE_MASK, segment == History.END ? FROM_PASSED : BEFORE, ALL);
                    return 0;
                default:
                    return NOTHING;
            }
        }

        /** The environment that is so far out of where a body is evaluated. */
        private int environmentOf(int act, int out) {
            if (out == Walker.GLOBAL_OUT) {
                return 0;
            }
            int environment = history.environmentOf(act);
            for (int i = 0; i < out; i++) {
                environment = history.around(environment);
            }
            return environment;
        }

        /** Goes on to a variable, from what is next in the interval at hand on. */
        private void lookFor(int environment, int place, int next, int limit) {
            note(ENVIRONMENT, environment);
            note(PLACE, place);
            note(NEXT, next);
            note(LIMIT, limit);
            note(CEILING, 0);
            note(FRESH, 0);
            note(STAGE, AT_VARIABLE);
            if (environment != 0 && !history.isSetSomewhere(environment, place)) {
                note(LOOKED, environment);
                note(PLACE, place & REST - 1);
                note(STAGE, (place & REST) == 0 ? AT_ARGUMENT : AT_REST);
            }
        }

        /** Goes on to what a variable is bound to. */
        private void lookForArgument(int activation, int place) {
            note(LOOKED, activation);
            note(PLACE, place & REST - 1);
            note(STAGE, (place & REST) == 0 ? AT_ARGUMENT : AT_REST);
        }

        // ---- arguments

        /** The list of the arguments of an activation from one on. */
        static long view(int activation, int index, int count) {
            long place = (long) index << VALUE_BITS + INTERVAL_BITS;
            long ofAll = (long) count << VALUE_BITS + INTERVAL_BITS + COUNT_BITS;
            return index < count ? VIEW | (long) activation << VALUE_BITS | place | ofAll : EMPTY;
        }

        private static int activationOf(long view) {
            return (int) (view >>> VALUE_BITS) & INTERVAL_MASK;
        }

        private static int indexOf(long view) {
            return (int) (view >>> VALUE_BITS + INTERVAL_BITS) & COUNT_MASK;
        }

        private static int countOf(long view) {
            return (int) (view >>> VALUE_BITS + INTERVAL_BITS + COUNT_BITS) & COUNT_MASK;
        }

        private int countOfArguments(int activation) {
            if (history.extraOf(activation, History.ONE_EXTRA) != 0) {
                return 1;
            }
            int extra = history.extraOf(activation, History.ARGUMENTS_EXTRA);
            extra = extra == 0 ? history.extraOf(activation, History.LIST_EXTRA) : extra;
            extra = extra == 0 ? history.extraOf(activation, History.COUNT_EXTRA) : extra;
            return extra == 0 ? 0 : history.infoOf(extra);
        }

        /** What the argument at hand is; 0 if it is not known yet. */
        private long lookAtArgument() {
            int activation = noted(LOOKED);
            int index = noted(PLACE);
            long found = knownFor(keyOf(ARGUMENT, activation, index, 0));
            if (found != 0) {
                return found;
            }
            int extra = history.extraOf(activation, History.ARGUMENTS_EXTRA);
            if (extra != 0) {
                return history.word(extra + 1 + index);
            }
            extra = history.extraOf(activation, History.ONE_EXTRA);
            if (extra != 0) {
                return history.word(extra + 1);
            }
            extra = history.extraOf(activation, History.LIST_EXTRA);
            if (extra != 0) {
                return argumentOfList(activation, history.word(extra + 1), index);
            }
            // The call is what the interval before ended with.
            int program = history.programOf(history.actOf(activation - 1, History.END));
            if (isLoaded(program)) {
                int call = store.word(program, history.placeOf(activation - 1)) >>> SLOT_SHIFT;
                note(LOOKED, activation - 1);
                note(PLACE, call + 1 + index);
                note(STAGE, AT_PART);
                mark(keyOf(PART, activation - 1, call + 1 + index, 0));
            }
            return 0;
        }

        private long argumentOfList(int activation, long list, int index) {
            int from = index / TAIL_STEP * TAIL_STEP;
            long tail = knownFor(keyOf(TAIL, activation, from, 0));
            if (tail == 0 && from > 0) {
                from -= TAIL_STEP;
                tail = knownFor(keyOf(TAIL, activation, from, 0));
            }
            from = tail == 0 ? 0 : from;
            tail = tail == 0 ? list : tail;
            int at = from;
            for (; at < index && tail != 0 && tagOf(tail) != VIEW; at++) {
                if (at % TAIL_STEP == 0) {
                    know(keyOf(TAIL, activation, at, 0), tail);
                }
                tail = restOf(tail);
            }
            if (tagOf(tail) == VIEW) {
                note(LOOKED, activationOf(tail));
                note(PLACE, indexOf(tail) + index - at);
                mark(keyOf(ARGUMENT, activationOf(tail), indexOf(tail) + index - at, 0));
                return 0;
            }
            return tail == 0 ? 0 : plainFirst(tail);
        }

        // ---- lists

        /** The first part of a pair; 0 if it is being looked for, or a program is wanted for it. */
        long firstOf(long pair) {
            return tagOf(pair) == VIEW ? argumentOf(activationOf(pair), indexOf(pair)) : plainFirst(pair);
        }

        private long plainFirst(long pair) {
            int place = (int) (pair >>> VALUE_BITS);
            if (tagOf(pair) == QUOTED) {
                int program = (int) (pair >>> VALUE_BITS + OFFSET_BITS);
                return isLoaded(program) ? store.plainValue(program, store.word(program, place & OFFSET_MASK)) : 0;
            }
            return place >= LAID ? store.valueOf(store.firstOf((int) (place - LAID))) : history.log.get(place);
        }

        /** The other part of a pair; 0 if a program is wanted for it. */
        long restOf(long pair) {
            int place = (int) (pair >>> VALUE_BITS);
            switch (tagOf(pair)) {
                case VIEW:
                    return view(activationOf(pair), indexOf(pair) + 1, countOf(pair));
                case QUOTED:
                    int program = (int) (pair >>> VALUE_BITS + OFFSET_BITS);
                    return isLoaded(program)
                            ? store.plainValue(program, store.word(program, (place & OFFSET_MASK) + 1))
                            : 0;
                default:
                    return place >= LAID ? store.valueOf(store.restOf((int) (place - LAID))) : history.log.get(place + 1);
            }
        }

        /** What is left of a list behind so many parts; 0 if a program is wanted for it. */
        long tailOf(long list, int count) {
            long tail = list;
            for (int i = 0; i < count && isPairValue(tail); i++) {
                tail = restOf(tail);
            }
            return tail;
        }

        /** The number of parts of a list; -1 if it does not end with the empty list, or if a program is wanted for it. */
        int lengthOf(long list) {
            long tail = list;
            int length = 0;
            for (int i = 0; i < MAX_STEPS && isPairValue(tail); i++) {
                if (tagOf(tail) == VIEW) {
                    length += countOf(tail) - indexOf(tail);
                    tail = EMPTY;
                } else {
                    length++;
                    tail = restOf(tail);
                }
            }
            return tail == EMPTY ? length : -1;
        }

        /** The same list, but not one of arguments that are a list themselves; 0 if a program is wanted for it. */
        long plainList(long list) {
            long plain = list;
            int extra = tagOf(plain) == VIEW ? history.extraOf(activationOf(plain), History.LIST_EXTRA) : 0;
            for (int i = 0; i < MAX_STEPS && extra != 0; i++) {
                int passed = indexOf(plain);
                plain = history.word(extra + 1);
                for (int j = 0; j < passed && isPairValue(plain); j++) {
                    plain = restOf(plain);
                }
                extra = tagOf(plain) == VIEW ? history.extraOf(activationOf(plain), History.LIST_EXTRA) : 0;
            }
            return plain;
        }

        // ---- variables

        /** Goes on to the last interval ahead in which the variable may have been set, or to what it is bound to. */
        private long lookEarlier() {
            int environment = noted(ENVIRONMENT);
            int place = noted(PLACE);
            int looked = noted(LOOKED);
            long held = knownFor(keyOf(VARIABLE, environment, place, looked));
            if (held != 0) {
                return held;
            }
            if (noted(CEILING) == 0) {
                note(CEILING, looked);
                mark(keyOf(VARIABLE, environment, place, looked));
            }
            int found = lastSetting(environment, place, settings.lastPossible(environment, place, looked));
            int anchor = found == 0 ? NONE : settings.anchorAt(found, looked);
            if (anchor != NONE) {
                held = settings.anchored(anchor, environment, place);
                if (held == 0 && settings.isComplete(anchor, environment)) {
                    note(LOOKED, settings.intervalBefore(anchor) + 1);
                    return 0;
                }
            }
            if (found == 0) {
                passed(environment, place, 0);
                return initial(environment, place);
            }
            held = held == 0 ? knownFor(keyOf(BEHIND, environment, place, found)) : held;
            note(LOOKED, found);
            note(NEXT, FROM_END);
            note(LIMIT, ALL);
            note(FRESH, 1);
            return held;
        }

        /** The last interval up to one in which a variable may have been set; 0 if there is none. */
        private int lastSetting(int environment, int place, int last) {
            int row = rowOfPass(environment, place);
            long pass = wordAt(tables[PASSES], row) == keyOf(BEHIND, environment, place, 0) ? wordAt(tables[PASSES], row + 1) : 0;
            int from = (int) pass & INTERVAL_MASK;
            int to = (int) (pass >>> INTERVAL_BITS);
            if (to == 0 || last <= from) {
                return settings.lastSetting(environment, place, last, Math.max(1, environment));
            }
            int found = last < to ? 0 : settings.lastSetting(environment, place, last, Math.max(to, environment));
            return found == 0 ? from : found;
        }

        private int rowOfPass(int environment, int place) {
            int hash = (environment * 0x9E3779B1 + place * 0x7FEB352D) * 0x85EBCA6B;
            return (hash >>> 8) % (tables[PASSES].length >> 1) << 1;
        }

        /** Keeps it that a variable was not set between an interval and where the search began. */
        private void passed(int environment, int place, int interval) {
            int ceiling = noted(CEILING);
            if (ceiling != 0) {
                int row = rowOfPass(environment, place);
                putWord(tables[PASSES], row, keyOf(BEHIND, environment, place, 0));
                putWord(tables[PASSES], row + 1, interval | (long) ceiling << INTERVAL_BITS);
            }
        }

        /** What a variable was as long as it was not set; 0 if that is looked for now. */
        private long initial(int environment, int place) {
            if (environment != 0) {
                lookForArgument(environment, place);
                return 0;
            }
            return place >= FIRST_PRIMITIVE && place <= LAST_PRIMITIVE ? primitiveValue(place) : NOTHING;
        }

        /** Looks whether the variable was set in a segment of the interval at hand. */
        private long lookInto(int next) {
            int interval = noted(LOOKED);
            int segment = next == FROM_END ? History.END : next == FROM_PASSED ? History.PASSED : History.START;
            int flags = history.flagsOf(interval);
            int flag = next == FROM_END ? History.END_SET : next == FROM_PASSED ? History.PASSED_SET : History.START_SET;
            int act = segment == History.PASSED ? 0 : history.actOf(interval, segment);
            int out = act == 0 ? 0 : depthOf(history.environmentOf(act), noted(ENVIRONMENT));
            boolean isSet = (flags & flag) != 0
                    && (segment == History.END || settings.isPassedIn(interval, noted(ENVIRONMENT), noted(PLACE)));
            if (!isSet || out == NONE || noted(LIMIT) == 0) {
                note(NEXT, next + 1);
                note(LIMIT, ALL);
                note(FRESH, 0);
                return 0;
            }
            note(SEGMENT, segment);
            note(PURPOSE, Walker.SETS);
            boolean isPassed = segment == History.PASSED;
            long start = isPassed ? segment : startOf(interval, segment);
            long tests = isPassed ? OF_INTERVAL | interval : testsOf(interval, segment);
            long kept = isPassed && noted(LIMIT) != ALL ? -1 : walker.kept(Walker.SETS, start, tests);
            if (isPassed && kept < 0 && noted(LIMIT) == ALL && noted(ENVIRONMENT) <= history.actOf(interval, History.END)) {
                kept = walker.kept(Walker.SETS, PASSED_OF_OLD, tests);
            }
            if (kept < 0) {
                note(IS_BEGUN, 0);
                note(STAGE, AT_BEGIN);
                return 0;
            }
            int key = isPassed ? Settings.keyOf(noted(ENVIRONMENT), noted(PLACE)) | Walker.COMPOSED : noted(PLACE) | out << Walker.OUT_SHIFT;
            long set = walker.keptSetting(kept, key);
            if (isPassed && set != Walker.NOT_SET) {
                noteSet();
                if (!Settings.isValue(set)) {
                    lookFor(Settings.environmentAhead(set), Settings.placeAhead(set), FROM_PASSED, Settings.bodyAhead(set));
                }
                return Settings.isValue(set) ? set : 0;
            }
            takeSetting(set);
            return 0;
        }

        /** How far out an environment is, seen from another one; NONE if it is not around that. */
        private int depthOf(int environment, int target) {
            int around = environment;
            int out = 0;
            for (int i = 0; i < MAX_LEVEL && around > target; i++) {
                around = history.around(around);
                out++;
            }
            return target == 0 ? Walker.GLOBAL_OUT : around == target ? out : NONE;
        }

        /** Goes on with what the variable is set to in the segment at hand, if it is. */
        private void takeSetting(long word) {
            if (word == Walker.NOT_SET) {
                note(NEXT, noted(NEXT) + 1);
                note(LIMIT, ALL);
                note(FRESH, 0);
                note(STAGE, AT_VARIABLE);
            } else {
                takeLater(word);
                note(IS_SET, 1);
            }
        }

        private void noteSet() {
            int environment = noted(ENVIRONMENT);
            int place = noted(PLACE);
            if (noted(FRESH) != 0) {
                mark(keyOf(BEHIND, environment, place, noted(LOOKED)));
            }
            passed(environment, place, noted(LOOKED));
        }

        // ---- walks

        /** Where a segment begins in the code. */
        private long startOf(int interval, int segment) {
            int waited = segment == History.END ? history.waitedOf(interval) : 0;
            int code = history.codeOf(history.actOf(interval, segment));
            return waited == 0 ? code : code >>> OFFSET_BITS << OFFSET_BITS | history.placeOf(waited);
        }

        private boolean isStopped(int interval, int segment) {
            return segment == History.END && (history.flagsOf(interval) & History.STOPPED) != 0;
        }

        /** By what the way through a segment is known, besides where it begins. */
        private long testsOf(int interval, int segment) {
            long tests = isStopped(interval, segment) ? 0 : history.keyOfTests(interval, segment);
            return tests == 0 ? OF_INTERVAL | interval : tests;
        }

        /** Begins with a walk through the segment at hand, or the next body in it, if there is need of it. */
        private void beginWalk() {
            int interval = noted(LOOKED);
            int segment = noted(SEGMENT);
            boolean isPassed = segment == History.PASSED;
            if (noted(IS_BEGUN) == 0) {
                note(IS_BEGUN, 1);
                note(LEVELS_BELOW, walker.levelCount);
                note(PARTS_BELOW, walker.partCount);
                note(SETS_BELOW, walker.setCount);
                note(BITS, bitsUsed);
                note(SEEN, 0);
                loadTests(interval, segment);
                if (isPassed && !areBodiesComposed(interval)) {
                    note(STAGE, AT_FIRST);
                    return;
                }
            }
            int waited = isPassed ? noted(FRAME) : segment == History.END ? history.waitedOf(interval) : 0;
            int act = isPassed ? history.actOf(waited, History.END) : history.actOf(interval, segment);
            int program = history.programOf(act);
            if (!isLoaded(program)) {
                return;
            }
            store.makeRoom(store.blocksBeside(program), program);
            note(SETS_OF_BODY, walker.setCount);
            note(TESTS_AHEAD, walker.seen);
            int place = waited == 0 ? 0 : history.placeOf(waited);
            int limit = isStopped(interval, segment) ? history.placeOf(interval) : 0;
            walker.beginAt(program, history.codeOf(act) & OFFSET_MASK, place, limit);
            note(STAGE, AT_WALK);
        }

        /** Begins with the first of the bodies that were passed. All that is set in them is told if it is wanted often. */
        private boolean areBodiesComposed(int interval) {
            note(FRAME, history.firstPassedOf(interval));
            note(BODY, 0);
            note(HIT_BODY, NONE);
            note(CARRIED_BODY, 0);
            noteWord(CARRIED, history.firstGiftOf(interval));
            noteWord(CARRIED_WHOLE, history.firstGiftOf(interval));
            note(OLD, noted(TESTS) < 0 ? ALL : history.actOf(interval, History.END));
            note(IS_IN_ORDER, noted(TESTS) >= 0 && history.arePassedInOrder(interval) ? 1 : 0);
            note(FIRST_BODY, NONE);
            note(STOP, noted(LIMIT));
            boolean canBeKept = noted(LIMIT) == ALL && isClosed(interval) && noted(ENVIRONMENT) <= noted(OLD);
            boolean isAtOnce = noted(TESTS) < 0 || canBeKept && walker.isLookedOften(interval);
            note(IS_LARGE, isAtOnce ? 0 : 1);
            return isAtOnce;
        }

        // Now and then it is kept how far a pass through bodies was, so that later ones need not begin with the first body:
        // interval and place of the body, frame and tests ahead of it; what it went on with, with activation and body of that.

        private static int placeOfPass(int interval, int body) {
            int hash = (interval * 0x9E3779B1 + body * 0x7FEB352D) * 0x85EBCA6B;
            return (hash >>> PASS_SHIFT) * PASS_WORDS;
        }

        private static long keyOfPass(int interval, int body) {
            return interval | (long) body << BODY_OF_PASS;
        }

        private void keepPass() {
            int row = placeOfPass(noted(LOOKED), noted(BODY));
            putWord(tables[BODIES], row, keyOfPass(noted(LOOKED), noted(BODY)));
            putWord(tables[BODIES], row + 1, noted(FRAME) | (long) walker.seen << BODY_OF_PASS);
            putWord(tables[BODIES], row + 2, notedWord(CARRIED));
            putWord(tables[BODIES], row + 3, noted(CARRIED_ACT) | (long) noted(CARRIED_BODY) << BODY_OF_PASS);
        }

        /** Whether a pass is kept at a body, which is one to be looked at. */
        private boolean isPassKept(int interval, int body) {
            int row = placeOfPass(interval, body);
            if (body >= noted(STOP) || wordAt(tables[BODIES], row) != keyOfPass(interval, body)) {
                return false;
            }
            int frame = (int) wordAt(tables[BODIES], row + 1) & INTERVAL_MASK;
            return history.actOf(frame, History.END) >= noted(ENVIRONMENT);
        }

        /** The last body at which a pass is kept of those that may have set the variable. */
        private int lastRowFor(int interval) {
            int low = 0;
            int step = BODIES_OF_PASS;
            for (int i = 0; i < 30 && isPassKept(interval, low + step); i++) {
                low += step;
                step *= 2;
            }
            for (; step >= BODIES_OF_PASS; step /= 2) {
                low += isPassKept(interval, low + step) ? step : 0;
            }
            return low;
        }

        /** Begins with a body at which a pass is kept, or the first one. */
        private void beginWithBody() {
            int body = noted(FIRST_BODY);
            if (body == NONE) {
                body = noted(IS_IN_ORDER) != 0 ? lastRowFor(noted(LOOKED)) : 0;
            }
            int row = placeOfPass(noted(LOOKED), body);
            if (body > 0 && wordAt(tables[BODIES], row) == keyOfPass(noted(LOOKED), body)) {
                note(FRAME, (int) wordAt(tables[BODIES], row + 1) & INTERVAL_MASK);
                walker.seen = (int) (wordAt(tables[BODIES], row + 1) >>> BODY_OF_PASS);
                noteWord(CARRIED, wordAt(tables[BODIES], row + 2));
                note(CARRIED_ACT, (int) wordAt(tables[BODIES], row + 3) & INTERVAL_MASK);
                note(CARRIED_BODY, (int) (wordAt(tables[BODIES], row + 3) >>> BODY_OF_PASS));
                note(BODY, body);
            } else {
                note(FRAME, history.firstPassedOf(noted(LOOKED)));
                walker.seen = 0;
                noteWord(CARRIED, history.firstGiftOf(noted(LOOKED)));
                note(CARRIED_BODY, 0);
                note(BODY, 0);
            }
            note(FIRST_BODY, noted(BODY));
            note(STAGE, AT_BODIES);
        }

        /** Goes on with bodies ahead of those that were looked at, the more of them the more there were. */
        private void lookAhead() {
            int first = noted(FIRST_BODY);
            int width = Math.max(BODIES_OF_PASS, 2 * (noted(STOP) == noted(LIMIT) ? 0 : noted(STOP) - first));
            note(STOP, first);
            note(FIRST_BODY, Math.max(0, first - width));
            note(STAGE, AT_FIRST);
        }

        private boolean isClosed(int interval) {
            return interval != history.now || !history.isOpen;
        }

        /** Goes on through bodies that were passed, as long as it is kept what they come to. */
        private void passBodies() {
            int environment = noted(ENVIRONMENT);
            int place = noted(PLACE);
            for (int i = 0; i < MAX_STEPS && noted(STAGE) == AT_BODIES; i++) {
                int act = history.actOf(noted(FRAME), History.END);
                long kept = walker.keptBody(startOfBody(noted(FRAME), act));
                if (kept < 0) {
                    note(STAGE, AT_BEGIN);
                } else {
                    walker.passTests(kept);
                    int out = depthOf(history.environmentOf(act), environment);
                    long set = out == NONE ? Walker.NOT_SET : walker.keptSetting(kept, place | out << Walker.OUT_SHIFT);
                    endBody(act, set, walker.valueOfKept(kept));
                    goBehind();
                }
            }
        }

        private long startOfBody(int frame, int act) {
            return history.codeOf(act) >>> OFFSET_BITS << OFFSET_BITS | history.placeOf(frame);
        }

        /** Lets the walker have the tests of a segment, as far as they are known. */
        private void loadTests(int interval, int segment) {
            int count = history.load(interval, segment);
            long kept = count < 0 ? walker.kept(Walker.TESTS, (long) interval << 2 | segment, 0) : -1;
            count = kept < 0 ? count : walker.loadTests(kept);
            note(TESTS, count);
            walker.setTests(count);
        }

        /** Looks for what the test at hand came to, which is not known. */
        private void lookAtTest() {
            int interval = noted(LOOKED);
            int segment = noted(SEGMENT);
            boolean isPassed = segment == History.PASSED;
            long word = walker.value;
            int body = noted(BODY);
            if (word == Walker.GIFT) {
                long carried = isComposed() ? notedWord(CARRIED_WHOLE) : wordOfBody(notedWord(CARRIED), noted(CARRIED_ACT));
                word = isPassed ? carried : history.giftOf(interval);
                body = isComposed() ? 0 : noted(CARRIED_BODY);
            } else if (((int) word & Walker.SORT_MASK) == Walker.AHEAD) {
                int variable = (int) (word >>> Walker.CONTENT_SHIFT);
                int act = isPassed ? history.actOf(noted(FRAME), History.END) : history.actOf(interval, segment);
                int environment = environmentOf(act, variable >>> Walker.OUT_SHIFT);
                word = Settings.ahead(environment, variable & VARIABLE_MASK);
                if (isPassed && isComposed()) {
                    long composed = walker.composedSetting(Settings.keyOf(environment, variable & VARIABLE_MASK), noted(SETS_BELOW));
                    word = composed == Walker.NOT_SET ? word : composed;
                    body = 0;
                }
            } else {
                word = word == FALSE ? FALSE : TRUE;
            }
            long found = Settings.isValue(word) ? word : knownFor(keyOf(TEST, interval, noted(SEEN), segment));
            word = found == 0 ? word : found;
            if (Settings.isValue(word)) {
                noteTest(word != FALSE);
                walker.choose(word != FALSE);
                return;
            }
            note(TEST_ENVIRONMENT, Settings.environmentAhead(word));
            note(TEST_PLACE, Settings.placeAhead(word));
            note(TEST_LIMIT, isPassed ? body : ALL);
            note(STAGE, AT_WITHIN);
        }

        /** Goes on with a walk behind a test that was looked for. */
        private void goOnWithWalk() {
            boolean isPassed = noted(SEGMENT) == History.PASSED;
            int act = isPassed ? history.actOf(noted(FRAME), History.END) : history.actOf(noted(LOOKED), noted(SEGMENT));
            int program = history.programOf(act);
            if (isLoaded(program)) {
                int limit = isStopped(noted(LOOKED), noted(SEGMENT)) ? history.placeOf(noted(LOOKED)) : 0;
                walker.take(noted(LEVELS_BELOW), noted(SETS_OF_BODY), program, limit);
                noteTest(noted(OUTCOME) != 0);
                walker.choose(noted(OUTCOME) != 0);
                note(STAGE, AT_WALK);
            }
        }

        private void noteTest(boolean holds) {
            int seen = noted(SEEN);
            if (noted(SEGMENT) == History.PASSED && !isComposed()) {
                know(keyOf(TEST, noted(LOOKED), seen, History.PASSED), holds ? TRUE : FALSE);
            }
            History.putBit(bits, (noted(BITS) << 6) + seen, holds ? 1 : 0);
            note(SEEN, seen + 1);
        }

        /** Goes on with what the walk told that is at its end. */
        private void endWalk() {
            int interval = noted(LOOKED);
            int segment = noted(SEGMENT);
            if (noted(TESTS) < 0) {
                walker.keepTests((long) interval << 2 | segment, bits, noted(BITS), noted(SEEN));
                bitsUsed = noted(BITS);
            }
            long start = startOf(interval, segment);
            long tests = testsOf(interval, segment);
            boolean isPart = noted(PURPOSE) == Walker.PARTS;
            long told;
            if (isPart) {
                told = walker.partNow(noted(PLACE));
                walker.keepParts(start, tests);
            } else {
                int out = depthOf(history.environmentOf(history.actOf(interval, segment)), noted(ENVIRONMENT));
                told = walker.settingNow(noted(PLACE) | out << Walker.OUT_SHIFT);
                walker.keepTable(Walker.SETS, start, tests, noted(SETS_BELOW));
            }
            walker.cut(noted(LEVELS_BELOW), noted(PARTS_BELOW), noted(SETS_BELOW));
            if (isPart) {
                takeLater(told);
            } else {
                takeSetting(told);
            }
        }

        /** A word of a body that was passed, without regard to where it is told. */
        private long wordOfBody(long word, int act) {
            int content = (int) (word >>> Walker.CONTENT_SHIFT);
            if (((int) word & Walker.SORT_MASK) == Walker.AHEAD) {
                return Settings.ahead(environmentOf(act, content >>> Walker.OUT_SHIFT), content & VARIABLE_MASK);
            }
            return ((int) word & Walker.SORT_MASK) == Walker.MADE ? closure(content, act, noted(LOOKED)) : word;
        }

        /** Whether all that was set in the bodies passed up to now is known, by what was ahead of them. */
        private boolean isComposed() {
            return noted(IS_LARGE) == 0;
        }

        /** A word of a body that was passed, by what was ahead of all of them. */
        private long wordOfAll(long word, int act) {
            int content = (int) (word >>> Walker.CONTENT_SHIFT);
            switch ((int) word & Walker.SORT_MASK) {
                case Walker.GIFT:
                    return notedWord(CARRIED_WHOLE);
                case Walker.MADE:
                    return closure(content, act, noted(LOOKED));
                case Walker.AHEAD:
                    int environment = environmentOf(act, content >>> Walker.OUT_SHIFT);
                    int place = content & VARIABLE_MASK;
                    if (environment > noted(OLD)) {
                        return Settings.aheadOfBody(environment, place, noted(BODY));
                    }
                    long composed = walker.composedSetting(Settings.keyOf(environment, place), noted(SETS_BELOW));
                    return composed == Walker.NOT_SET ? Settings.ahead(environment, place) : composed;
                default:
                    return word;
            }
        }

        /** Takes what is set in a body that was passed to what was set in those ahead of it, unless it is too much. */
        private void compose() {
            int act = history.actOf(noted(FRAME), History.END);
            int count = isComposed() ? walker.countOfSettings() : 0;
            int told = 0;
            for (int i = 0; i < count; i++) {
                int variable = walker.variableAt(i);
                int environment = environmentOf(act, variable >>> Walker.OUT_SHIFT);
                if (environment <= noted(OLD)) {
                    walker.tell(told, Settings.keyOf(environment, variable & VARIABLE_MASK), wordOfAll(walker.wordOf(i), act));
                    told++;
                }
            }
            noteWord(CARRIED_WHOLE, isComposed() ? wordOfAll(walker.value, act) : 0);
            walker.compose(told, noted(SETS_BELOW));
            if (walker.setCount - noted(SETS_BELOW) > MOST_COMPOSED) {
                note(IS_LARGE, 1);
            }
        }

        /** Keeps and notes what a body came to that was walked through. */
        private void endWalkOfBody() {
            int frame = noted(FRAME);
            int act = history.actOf(frame, History.END);
            int out = depthOf(history.environmentOf(act), noted(ENVIRONMENT));
            long set = out == NONE ? Walker.NOT_SET : walker.settingNow(noted(PLACE) | out << Walker.OUT_SHIFT);
            if (!isComposed() && noted(TESTS) >= 0) {
                long start = startOfBody(frame, act);
                long tests = walker.testsOfBody(start, noted(TESTS_AHEAD));
                if (tests != 0) {
                    walker.keepTable(Walker.BODIES, start, tests, noted(SETS_OF_BODY));
                }
            }
            endBody(act, set, walker.value);
        }

        /** Notes what the variable is set to in a body that was passed, and its value. */
        private void endBody(int act, long set, long value) {
            if (set != Walker.NOT_SET) {
                noteWord(HIT, set == Walker.GIFT ? notedWord(CARRIED) : set);
                note(HIT_ACT, set == Walker.GIFT ? noted(CARRIED_ACT) : act);
                note(HIT_BODY, set == Walker.GIFT ? noted(CARRIED_BODY) : noted(BODY));
            }
            if (value != Walker.GIFT) {
                noteWord(CARRIED, value);
                note(CARRIED_ACT, act);
                note(CARRIED_BODY, noted(BODY));
            }
        }

        /** Goes on behind a body that was passed. */
        private void goBehind() {
            int frame = frameBehind(history.actOf(noted(FRAME), History.END));
            note(BODY, noted(BODY) + 1);
            note(FRAME, frame);
            boolean isLast = frame == 0 || frame == history.waitedOf(noted(LOOKED)) || noted(BODY) >= noted(STOP);
            if (!isLast && noted(IS_IN_ORDER) != 0) {
                // In what began ahead of an environment, no variable of it can be set.
                isLast = !isComposed() && history.actOf(frame, History.END) < noted(ENVIRONMENT);
                if ((noted(BODY) & BODIES_OF_PASS - 1) == 0) {
                    keepPass();
                }
            }
            note(STAGE, isLast ? AT_ALL : isComposed() ? AT_BEGIN : AT_BODIES);
        }

        /** Which body went on with the value of one; where a value came from elsewhere, that one is carried on. */
        private int frameBehind(int act) {
            int frame = history.behind(act);
            for (int i = 0; i < MAX_STEPS && frame >= History.SPECIAL; i++) {
                long word = history.word(frame - History.SPECIAL);
                int sort = (int) word & FRAME_MASK;
                int goal = (int) (word >>> FRAME_BITS + LINK_BITS) & LINK_MASK;
                boolean isJump = sort == JUMP_FRAME || sort == ENTER_FRAME;
                if (sort == AFTER_FRAME || isJump) {
                    // A jump that was applied to nothing else has arrived.
                    long given = history.word(isJump ? goal + 1 : frame - History.SPECIAL + 1);
                    noteWord(CARRIED, given);
                    noteWord(CARRIED_WHOLE, given);
                }
                frame = isJump ? (int) history.word((int) history.word(goal)) & LINK_MASK : (int) (word >>> FRAME_BITS) & LINK_MASK;
            }
            return frame;
        }

        /** Goes on behind all bodies that were passed. */
        private long endBodies() {
            int interval = noted(LOOKED);
            long hit = wordOfBody(notedWord(HIT), noted(HIT_ACT));
            int body = noted(HIT_BODY);
            if (isComposed()) {
                hit = walker.composedSetting(Settings.keyOf(noted(ENVIRONMENT), noted(PLACE)), noted(SETS_BELOW));
                body = hit == Walker.NOT_SET ? NONE : Settings.isValue(hit) ? 0 : Settings.bodyAhead(hit);
                int sort = noted(OLD) == ALL ? History.PASSED : PASSED_OF_OLD;
                if (noted(LIMIT) == ALL && isClosed(interval)
                        && walker.keepTable(Walker.SETS, sort, OF_INTERVAL | interval, noted(SETS_BELOW)) < 0) {
                    walker.noteTooLarge(interval);
                }
            } else if (body == NONE && noted(FIRST_BODY) > 0) {
                lookAhead();
                return 0;
            }
            if (noted(TESTS) < 0 && noted(LIMIT) == ALL && isClosed(interval)) {
                walker.keepTests((long) interval << 2 | History.PASSED, bits, noted(BITS), noted(SEEN));
            }
            bitsUsed = noted(BITS);
            walker.cut(noted(LEVELS_BELOW), noted(PARTS_BELOW), noted(SETS_BELOW));
            if (body == NONE) {
                takeSetting(Walker.NOT_SET);
                return 0;
            }
            noteSet();
            if (!Settings.isValue(hit)) {
                lookFor(Settings.environmentAhead(hit), Settings.placeAhead(hit), FROM_PASSED, body);
            }
            return Settings.isValue(hit) ? hit : 0;
        }

        // ---- what is known for a while

        /** Lets more be known, if much is forgotten. */
        private void growKnown() {
            long[] before = tables[KNOWN];
            tables[KNOWN] = new long[2 * before.length];
            for (int i = before.length - 2; i >= 0; i -= 2) {
                if (wordAt(before, i) != 0) {
                    know(wordAt(before, i), wordAt(before, i + 1));
                }
            }
            forgotten = 0;
        }

        /** Lets more be known of variables, if there is more to know. */
        private void growPasses() {
            if (tables[PASSES].length < MOST_PASSES && tables[PASSES].length < history.now) {
                tables[PASSES] = new long[4 * tables[PASSES].length];
            }
        }

        private int rowOfKnown(long key) {
            int hash = ((int) key * 0x9E3779B1 + (int) (key >>> 32) * 0x7FEB352D) * 0x85EBCA6B;
            return (hash ^ hash >>> 15) & tables[KNOWN].length - 4;
        }

        private long knownFor(long key) {
            int row = rowOfKnown(key);
            if (wordAt(tables[KNOWN], row) == key) {
                return wordAt(tables[KNOWN], row + 1);
            }
            return wordAt(tables[KNOWN], row + 2) == key ? wordAt(tables[KNOWN], row + 3) : 0;
        }

        /** Keeps what was found. */
        private void know(long key, long value) {
            int row = rowOfKnown(key);
            if (wordAt(tables[KNOWN], row) != key) {
                forgotten += wordAt(tables[KNOWN], row + 2) == 0 ? 0 : 1;
                putWord(tables[KNOWN], row + 2, wordAt(tables[KNOWN], row));
                putWord(tables[KNOWN], row + 3, wordAt(tables[KNOWN], row + 1));
                putWord(tables[KNOWN], row, key);
            }
            putWord(tables[KNOWN], row + 1, value);
        }
    }

    /**
     * The body of a procedure, or the program, that is evaluated at hand: the forms in it that wait for a part, and the
     * values of the parts of calls up to now, as far as they are known. What is the last thing in the body waits for nothing.
     */
    private static final class Body {
        // What is next: to evaluate the form, to take the value, to apply a procedure; anything above is an error's letter.
        static final int EVALUATE = 0;
        static final int TAKE = 1;
        static final int APPLY = 2;
        private static final int STEPS = 100000;
        // What is known of a form that waits: its slot, its place, the place of the part at hand, at what height its values begin.
        private static final int NODE = 0;
        private static final int PLACE = 1;
        private static final int CURSOR = 2;
        private static final int HEIGHT = 3;
        private static final int LEVEL = 4;

        private final Store store;
        private final History history;
        private final Settings settings;
        private final Finder finder;
        int program; // that is evaluated
        private final int[] levels; // for each form that waits: see below
        private int level;
        private final Area stack; // a value, or what tells it by what variables were ahead, or 0
        private int used;
        private int fixed; // how many of them are of intervals before
        private int below; // how many values wait below them
        int start; // at what height the procedure to be applied is, with its arguments above
        int mode;
        long value; // or what tells it by what a variable was ahead
        int environment;
        private int form;
        private int formPlace;
        int behind; // what waits behind the body

        Body(Area room, Store store, History history, Settings settings, Finder finder) {
            this.store = store;
            this.history = history;
            this.settings = settings;
            this.finder = finder;
            levels = new int[LEVELS * LEVEL];
            stack = new Area(room, MOST_BLOCKS);
            stack.reach(1);
            reset();
        }

        private void reset() {
            program = 0;
            environment = 0;
            level = -1;
            used = 0;
            fixed = 0;
            below = 0;
            start = 0;
            form = 0;
            formPlace = 0;
            put(levels, NODE, 0);
            put(levels, PLACE, 0);
        }

        /** Begins to evaluate the body of a lambda. */
        void startWith(int newProgram, int offset, int around) {
            reset();
            program = newProgram;
            environment = around;
            form = SEQUENCE | ACTIVE | offset + BODY_PLACE << SLOT_SHIFT;
            mode = EVALUATE;
        }

        /** Ends with a value. */
        void end(long last) {
            reset();
            value = last;
            mode = TAKE;
        }

        boolean isDone() {
            return level < 0;
        }

        /** Whether something in the body is next. */
        boolean isAtWork() {
            return mode == EVALUATE || mode == TAKE && level >= 0;
        }

        /** Lets a value be what the form at hand came to. */
        private void give(long answer) {
            value = answer;
            mode = TAKE;
        }

        /** Lets a value be what the call came to that was to be applied. */
        void giveForCall(long answer) {
            int frame = history.now;
            cutTo(start);
            give(answer);
            if (level >= 0) {
                history.openWith(frame, answer);
                finder.forget();
                fixed = used;
            }
        }

        /** Lets a procedure be applied without arguments, as long as none are pushed. */
        void applyLater(long procedure) {
            reset();
            push(procedure);
            mode = APPLY;
        }

        int countOfArguments() {
            return height() - start - 1;
        }

        void push(long argument) {
            stack.put(used, argument);
            used++;
        }

        // ---- evaluation

        /** Goes on until a procedure is to be applied, the body ends, or something must be found first. */
        void work() {
            for (int i = 0; i < STEPS && isAtWork() && !finder.isBusy(); i++) {
                if (mode == EVALUATE) {
                    evaluate();
                } else {
                    take();
                }
            }
        }

        /** Evaluates the form at hand; if something is to be found for it first, nothing is done. */
        private void evaluate() {
            int content = form >>> SLOT_SHIFT;
            switch (form & TAG_MASK) {
                case CALL:
                case BRANCH:
                    open(content);
                    break;
                case SEQUENCE:
                    if (store.word(program, content + 1) == 0) {
                        form = store.word(program, content);
                        formPlace = content;
                    } else {
                        open(content);
                    }
                    break;
                case LOCAL:
                    evaluateLocal();
                    break;
                case GLOBAL:
                    give(store.globalValue(content));
                    mode = value == 0 ? 'u' : TAKE;
                    break;
                case OTHER:
                    evaluateOther(content);
                    break;
                case CONSTANT:
                    give(store.valueOf(content));
                    break;
                default:
                    give(store.plainValue(program, content));
            }
        }

        private void evaluateLocal() {
            int around = environmentAt(form);
            int place = form >> SLOT_SHIFT & VARIABLE_MASK;
            if (isDropped()) {
                give(NOTHING);
                return;
            }
            long found = settings.known(around, place);
            int setting = found == 0 ? settings.settingOf(around, place) : -1;
            found = setting < 0 ? found : settings.contentOf(setting);
            if (Settings.isValue(found)) {
                give(found);
            } else if (canBeUnknown()) {
                give(found == 0 ? Settings.ahead(around, place) : found);
            } else {
                long variable = found == 0 ? Settings.ahead(around, place) : found;
                long looked = finder.variableAhead(Settings.environmentAhead(variable), Settings.placeAhead(variable));
                if (looked != 0) {
                    settings.remember(around, place, looked, settings.isMerging);
                    give(looked);
                }
            }
        }

        private int environmentAt(int slot) {
            int around = environment;
            for (int i = slot >>> DEPTH_OUT_SHIFT; i > 0; i--) {
                around = history.around(around);
            }
            return around;
        }

        /** Whether nothing looks at the value of the form at hand. */
        private boolean isDropped() {
            return level < 0 ? history.drops(behind) : (levelAt(level, NODE) & TAG_MASK) == SEQUENCE;
        }

        /** Whether the value of the form at hand can be found later, if something looks at it. */
        private boolean canBeUnknown() {
            int node = levelAt(level, NODE);
            boolean isSetLocal = (node & TAG_MASK) == OTHER && store.word(program, node >>> SLOT_SHIFT) == SET_LOCAL;
            return level >= 0 && ((node & TAG_MASK) == CALL || isSetLocal && !settings.isMerging);
        }

        private void evaluateOther(int node) {
            switch (store.word(program, node)) {
                case LAMBDA:
                    give(isDropped() ? NOTHING : Finder.closure(node, history.actNow(), history.now));
                    break;
                case SYNTAX:
                    store.define(store.word(program, node + 1), MACRO, 0);
                    give(NOTHING);
                    break;
                default:
                    open(node);
            }
        }

        private int height() {
            return below + used;
        }

        /** Lets nothing be above a height. */
        private void cutTo(int height) {
            used = Math.max(0, height - below);
            below = Math.min(below, height);
        }

        /** The value at a height; 0 if it is being looked for. */
        long valueAt(int height) {
            int index = height - below;
            long plain = index < 0 || index >= used ? 0 : stack.get(index);
            if (Settings.isValue(plain)) {
                return plain;
            }
            boolean isEarlier = plain == 0 || index < fixed;
            plain = isEarlier
                    ? finder.partOf(history.waitedNow(), placeAt(height))
                    : finder.variableAhead(Settings.environmentAhead(plain), Settings.placeAhead(plain));
            if (plain != 0 && index >= 0) {
                stack.put(index, plain);
            }
            return plain;
        }

        /** The value at a height, if it is known; otherwise 0. */
        long plainAt(int height) {
            int index = height - below;
            long plain = index < 0 || index >= used ? 0 : stack.get(index);
            return Settings.isValue(plain) ? plain : 0;
        }

        /** Where the part of a call is in the code whose value is at a height. */
        private int placeAt(int height) {
            for (int i = Math.min(level + 1, LEVELS - 1); i >= 0; i--) {
                if ((levelAt(i, NODE) & TAG_MASK) == CALL && levelAt(i, HEIGHT) <= height) {
                    return (levelAt(i, NODE) >>> SLOT_SHIFT) + height - levelAt(i, HEIGHT);
                }
            }
            return 0;
        }

        /** Lets the form at hand wait for its first part. */
        private void open(int content) {
            int first = (form & TAG_MASK) == OTHER ? content + 2 : content;
            level++;
            putLevel(NODE, form);
            putLevel(PLACE, formPlace);
            putLevel(CURSOR, content);
            putLevel(HEIGHT, height());
            form = store.word(program, first);
            formPlace = first;
        }

        /** Takes the value for the form that waits for it. */
        private void take() {
            int place = levelAt(level, CURSOR);
            switch (levelAt(level, NODE) & TAG_MASK) {
                case CALL:
                    stack.reach(used + 1);
                    push(value);
                    if (!isNextBegun(place + 1)) {
                        start = levelAt(level, HEIGHT);
                        level--;
                        mode = APPLY;
                    }
                    break;
                case BRANCH:
                    history.noteTest(value != FALSE);
                    formPlace = value == FALSE ? place + 2 : place + 1;
                    form = store.word(program, formPlace);
                    level--;
                    mode = form == 0 ? TAKE : EVALUATE;
                    value = NOTHING;
                    break;
                case SEQUENCE:
                    // What is the last part of it takes its place.
                    level -= isNextBegun(place + 1) && store.word(program, place + 2) != 0 ? 0 : 1;
                    break;
                default:
                    assign(store.word(program, place), store.word(program, place + 1));
            }
        }

        /** Goes on to the part of a form that has its slot at a place, if there is one. */
        private boolean isNextBegun(int place) {
            int next = store.word(program, place);
            if (next != 0) {
                putLevel(CURSOR, place);
                form = next;
                formPlace = place;
                mode = EVALUATE;
            }
            return next != 0;
        }

        private void assign(int kindOfNode, int target) {
            if (kindOfNode == SET_GLOBAL && store.globalValue(target) == 0) {
                formPlace = levelAt(level, PLACE);
                mode = 'u';
                return;
            }
            if (kindOfNode == SET_LOCAL) {
                int around = environmentAt(target);
                int place = target >> SLOT_SHIFT & VARIABLE_MASK;
                settings.set(around, place, value);
                settings.remember(around, place, Settings.isValue(value) ? value : 0, true);
            } else {
                store.define(target, VARIABLE, value);
                settings.set(0, target, value);
            }
            level--;
            value = NOTHING;
        }

        // ---- what waits

        /** The place of the call that is to be applied; 0 if it is none in code. */
        int placeOfCall() {
            return levelAt(level + 1, PLACE);
        }

        /** The place of the form at hand. */
        int placeOfForm() {
            return formPlace;
        }

        /** Whether the value of the call that is to be applied will be dropped. */
        boolean dropsValue() {
            return level >= 0 && (levelAt(level, NODE) & TAG_MASK) == SEQUENCE;
        }

        /** Leaves the body for an application; what is still to be done in it waits. */
        void leave() {
            behind = level < 0 ? behind : history.now;
        }

        /** Goes on with the body that waits for a value in the END of an interval. */
        void resume(int frame, long given) {
            if (history.isOpen) {
                history.passOn();
                history.goOnWith(frame, given);
                settings.pass();
            } else {
                history.openWith(frame, given);
            }
            finder.forget();
            int act = history.actNow();
            reset();
            program = history.programOf(act);
            environment = history.environmentOf(act);
            behind = history.behind(act);
            goTo(history.placeOf(frame));
            give(given);
        }

        /** Lets the forms wait that are around a call, the innermost one for the value at hand. */
        private void goTo(int place) {
            int content = store.word(program, place) >>> SLOT_SHIFT;
            int around = store.word(program, content - 2);
            int index = store.word(program, content - 1) & INDEX_MASK;
            for (int i = 0; i < MAX_LEVEL && around != 0; i++) {
                content = around >>> SLOT_SHIFT;
                int tag = around & TAG_MASK;
                int outer = store.word(program, content - 2);
                int outerIndex = store.word(program, content - 1) & INDEX_MASK;
                boolean isLast = tag == SEQUENCE && store.word(program, content + index + 1) == 0;
                if (!isLast && (tag != BRANCH || index == 0)) {
                    level++;
                    putLevel(NODE, around);
                    putLevel(PLACE, (outer >>> SLOT_SHIFT) + ((outer & TAG_MASK) == OTHER ? 2 : outerIndex));
                    putLevel(CURSOR, content + index);
                    putLevel(HEIGHT, tag == CALL ? index : 0);
                }
                around = outer;
                index = outerIndex;
            }
            for (int i = 0; 2 * i < level; i++) {
                for (int j = 0; j < LEVEL; j++) {
                    int number = levelAt(i, j);
                    put(levels, i * LEVEL + j, levelAt(level - i, j));
                    put(levels, (level - i) * LEVEL + j, number);
                }
            }
            for (int i = 0; i <= level; i++) {
                int waiting = levelAt(i, HEIGHT);
                put(levels, i * LEVEL + HEIGHT, below);
                below += waiting;
            }
        }

        private int levelAt(int which, int what) {
            return at(levels, which * LEVEL + what);
        }

        private void putLevel(int what, int number) {
            put(levels, level * LEVEL + what, number);
        }
    }

    /** The run at hand: procedures are applied, and what is still to be done behind a body is a chain of what waits. */
    private static final class Machine {
        // What is counted, of all runs.
        static final int APPLICATIONS = 0;
        static final int APPLICATIONS_OF_ENDED = 1;
        static final int EXPANSIONS = 2;
        static final int ENTERED = 3;
        static final int LEFT = 4;
        static final int JUMPS = 5;
        static final int ENDED = 6;
        static final int ENDED_WITH_VALUE = 7;
        static final int ABANDONED = 8; // winds that were entered when a run ended with an error or another one was begun
        static final int CALLS_OF_OBJECT = 9;
        private static final int APPLICATIONS_OF_RUN = 10;
        private static final int TALLIES = 11;
        private static final byte[] ARGUMENTS = {2, 2, 2, 2, 2, 2, 2, 1, 1, 1, 1, 2, 1, 3, 2, 1, 2, 1, 2, 1};
        private static final int PROCEDURE = 3; // behind the arguments of a primitive
        private static final int ANSWER = 4; // of first and rest; or the list that is applied to
        private static final int LENGTH = 5; // of that; -1 if it is none
        private static final int FIRST_SYMBOL = 17;
        private static final int REST_SYMBOL = 18;
        private static final int FIRST_CONTROL = 22;
        private static final int APPLY_SYMBOL = 24;
        private static final int NOT_SYMBOL = 25;
        private static final int MOST_ARGUMENTS = 1536; // of a call
        private static final int WORDS_OF_STEP = 14000;
        private static final int CALLS = 512;
        // Arguments that are held as they are, if they are no more than these; others are, now and then, so that no chain of
        // parts is too long.
        private static final int FEW_ARGUMENTS = 2;
        private static final int LEAST_PARTS = 64;

        private final Store store;
        private final History history;
        private final Settings settings;
        private final Finder finder;
        private final Body body;
        private final long[] tallies;
        private final long[] arguments; // of a primitive, the procedure, and more
        private final long[] held; // arguments
        private int heldCount;
        private char status; // 0 ahead of the first program, 'r', 'v', or the letter of an error
        private long result;
        private long list; // the arguments, if they are the parts of a list; otherwise 0
        private int listLength;
        private int topWind;
        private int topHandler;
        private int fuel;
        private int found; // of the procedure and the arguments, for what is applied next
        private int due; // the primitive that changes what is still to be done; or 0
        private final long[] anchored; // what variables are that an anchor is to have
        private int anchoredCount;

        Machine(Area room, Store store, History history, Settings settings, Finder finder) {
            this.store = store;
            this.history = history;
            this.settings = settings;
            this.finder = finder;
            body = new Body(room, store, history, settings, finder);
            tallies = new long[TALLIES];
            arguments = new long[LENGTH + 1];
            held = new long[MOST_ARGUMENTS];
            anchored = new long[Settings.MOST_RECENT];
        }

        boolean isBegun() {
            return status != 0;
        }

        char stateNow() {
            return status == 0 || status == 'r' || status == 'v' ? status : 'e';
        }

        /** The letter of the error with which the run ended. */
        char letter() {
            return status;
        }

        /** The value with which the run ended. */
        long result() {
            return result;
        }

        long tally(int which) {
            return wordAt(tallies, which);
        }

        void count(int which, long times) {
            putWord(tallies, which, wordAt(tallies, which) + times);
        }

        int countOfWinds() {
            return depthOf(topWind);
        }

        int countOfHandlers() {
            return topHandler == 0 ? 0 : (int) (history.log.get(topHandler) >>> LINK_BITS);
        }

        /** Gives up what there was of an earlier run. */
        void stop() {
            count(ABANDONED, countOfWinds());
            closeInterval(body.mode == Body.APPLY ? 0 : 'u');
            giveUp();
        }

        /** Begins with this program; 0 if it is wrong, and ends at once. */
        char start(int program, char wrong) {
            putWord(tallies, APPLICATIONS_OF_RUN, 0);
            status = 'r';
            if (program == 0 || !hasRoom()) {
                end(program == 0 ? wrong : 'o');
            } else {
                int root = store.rootOf(program);
                history.openBody(program << OFFSET_BITS | root, 0, 0, false, 0);
                body.startWith(program, root, 0);
                finder.forget();
            }
            return stateNow();
        }

        /** Lets there be so many applications. */
        void refuel(int units) {
            fuel = units;
            tellLeft();
        }

        /** Tells how many applications may still come, as far as the calls of the object tell it. */
        private void tellLeft() {
            history.setLeft(fuel + (int) Math.max(0, CALLS - tally(CALLS_OF_OBJECT)) * MAX_FUEL);
        }

        /** Goes on with the run; the number of a program that must be expanded for it first, or 0 at the end. */
        int goOn() {
            for (long i = 0; i < MAX_TURNS && status == 'r' && (body.mode != Body.APPLY || fuel > 0); i++) {
                makeRoomForCache();
                if (finder.isBusy()) {
                    finder.goOn();
                }
                int needed = finder.wanted == 0 ? programNeeded() : finder.takeWanted();
                if (needed != 0 && !store.isLoaded(needed)) {
                    return needed;
                }
                if (body.isAtWork()) {
                    store.makeRoom(store.blocksBeside(body.program), body.program);
                    body.work();
                } else if (!hasRoom()) {
                    body.mode = 'o';
                } else if (body.mode == Body.APPLY && isReady()) {
                    perform();
                } else if (body.mode == Body.TAKE && body.behind == 0) {
                    finish();
                } else if (body.mode == Body.TAKE && body.behind < History.SPECIAL) {
                    if (history.isOpen && history.isSegmentSet() && history.hasSpareIntervals(1)) {
                        closeInterval(0);
                    }
                    body.resume(body.behind, body.value);
                } else if (body.mode == Body.TAKE) {
                    giveToFrame(body.behind - History.SPECIAL);
                }
                if (body.mode > Body.APPLY) {
                    fail((char) body.mode);
                }
            }
            return 0;
        }

        /** The program of which the image is looked at next; or 0. */
        private int programNeeded() {
            if (body.isAtWork()) {
                return body.program;
            }
            if (body.mode == Body.APPLY) {
                long procedure = found > 0 ? wordAt(arguments, PROCEDURE) : 0;
                return tagOf(procedure) == CLOSURE ? history.programOf(actOf(procedure)) : 0;
            }
            boolean isBody = body.behind > 0 && body.behind < History.SPECIAL;
            return isBody ? history.programOf(history.actOf(body.behind, History.END)) : 0;
        }

        private static int actOf(long closure) {
            return (int) (closure >>> VALUE_BITS + OFFSET_BITS) & INTERVAL_MASK;
        }

        /** Goes on behind the expansion of a program, which may have found no room. */
        void takeProgram(boolean isThere) {
            if (!isThere) {
                fail('o');
            }
        }

        /** Whether there is room for the next step. */
        private boolean hasRoom() {
            int interval = history.now + 2;
            int blocks = history.blocksFor(WORDS_OF_STEP) + settings.blocksFor(interval);
            if (blocks == 0) {
                return interval < History.MOST_INTERVALS;
            }
            for (int i = 0; i < LEVELS && isFullWith(blocks) && settings.isCacheLarge(); i++) {
                settings.shrinkCache();
            }
            if (isFullWith(blocks) || !store.makeRoom(blocks, body.program)) {
                return false;
            }
            history.take(WORDS_OF_STEP);
            settings.take(interval);
            return interval < History.MOST_INTERVALS;
        }

        private boolean isFullWith(int blocks) {
            return history.blocks() + settings.blocks() + blocks > MOST_OF_HISTORY;
        }

        /** Lets more be remembered of what variables are, if it could not be found soon and there is room. */
        private void makeRoomForCache() {
            int blocks = settings.blocksForCache();
            boolean isThere = blocks > 0 && !isFullWith(blocks) && (store.hasRoom(blocks) || settings.isFindingSlow());
            if (isThere && store.makeRoom(blocks, body.program)) {
                settings.growCache();
            }
        }

        private void giveUp() {
            body.end(0);
            body.behind = 0;
            finder.drop();
            found = 0;
            heldCount = 0;
            list = 0;
            topWind = 0;
            topHandler = 0;
            result = 0;
        }

        private void fail(char errorLetter) {
            count(ABANDONED, countOfWinds());
            closeInterval(errorLetter);
            giveUp();
            end(errorLetter);
        }

        private void finish() {
            long last = body.value;
            closeInterval(0);
            giveUp();
            result = last;
            end('v');
            count(ENDED_WITH_VALUE, 1);
        }

        private void end(char how) {
            status = how;
            count(ENDED, 1);
            count(APPLICATIONS_OF_ENDED, tally(APPLICATIONS_OF_RUN));
        }

        /** Ends the interval at hand, if there is one: at the call that is next, or at the form with an error in it. */
        private void closeInterval(int errorLetter) {
            if (!history.isOpen) {
                return;
            }
            boolean isAnchored = anchoredCount > 0 && anchoredCount > settings.countOfAnchor();
            if (isAnchored) {
                settings.addAnchor(anchored);
            }
            anchoredCount = 0;
            boolean isStopped = errorLetter == 'u';
            int drops = body.dropsValue() ? History.DROPPING : 0;
            history.addTests(History.END);
            history.addTests(History.PASSED);
            history.close(isStopped ? body.placeOfForm() : body.placeOfCall(), isStopped ? History.STOPPED : drops);
            settings.commit(history.now, isAnchored);
        }

        /** Whether so many values are held now, where some are, now and then. */
        private boolean isHeldNow(int count) {
            return history.isRoomy() && (history.now * 0x9E3779B1 >>> 1) % (LEAST_PARTS + count / 2) == 0;
        }

        // ---- what waits

        private void push(int frame, int subject, long extra) {
            long word = frame | (long) body.behind << FRAME_BITS | (long) subject << FRAME_BITS + LINK_BITS;
            body.behind = History.SPECIAL + history.addTwo(word, extra);
        }

        private void giveToFrame(int frame) {
            long word = history.log.get(frame);
            long extra = history.log.get(frame + 1);
            int subject = (int) (word >>> FRAME_BITS + LINK_BITS) & LINK_MASK;
            body.behind = (int) (word >>> FRAME_BITS) & LINK_MASK;
            switch ((int) word & FRAME_MASK) {
                case HANDLER_FRAME:
                    topHandler = subject;
                    break;
                case BEFORE_FRAME:
                    enter(subject);
                    push(DURING_FRAME, subject, 0);
                    body.applyLater(extra);
                    break;
                case DURING_FRAME:
                    push(AFTER_FRAME, 0, body.value);
                    leaveWind(subject);
                    break;
                case AFTER_FRAME:
                    body.value = extra;
                    break;
                case JUMP_FRAME:
                    goOnWithJump(subject, (int) extra);
                    break;
                case ENTER_FRAME:
                    enter((int) extra);
                    goOnWithJump(subject, (int) extra);
                    break;
                default:
                    // A prompt that is come back to lets the value through.
                    break;
            }
        }

        private void enter(int wind) {
            topWind = wind;
            count(ENTERED, 1);
        }

        /** Leaves the innermost wind, and applies its after. */
        private void leaveWind(int wind) {
            topWind = aroundOf(wind);
            count(LEFT, 1);
            topHandler = handlersOf(wind);
            body.applyLater(history.log.get(wind + 2));
        }

        // ---- applications

        private int argumentCount() {
            return list == 0 ? body.countOfArguments() : listLength;
        }

        /** An argument of what is applied next; 0 if it is being looked for, or a program is wanted for it. */
        private long argumentAt(int index) {
            if (list == 0) {
                return body.valueAt(body.start + 1 + index);
            }
            long tail = finder.tailOf(list, index);
            return tail == 0 ? 0 : finder.firstOf(tail);
        }

        /** Whether all is at hand that the application needs. What was found is not looked for again. */
        private boolean isReady() {
            long procedure = found > 0 ? wordAt(arguments, PROCEDURE) : body.valueAt(body.start);
            if (procedure == 0) {
                return false;
            }
            putWord(arguments, PROCEDURE, procedure);
            found = Math.max(found, 1);
            if (tagOf(procedure) == CLOSURE) {
                return store.isLoaded(history.programOf(actOf(procedure))) && areArgumentsReady() && isAnchorReady();
            }
            int symbol = isPrimitive(procedure) ? atomNumber(procedure) : 0;
            int needed = symbol == 0 ? 1 : argumentsOf(symbol);
            for (; found <= needed && argumentCount() == needed; found++) {
                long argument = argumentAt(found - 1);
                if (argument == 0) {
                    return false;
                }
                putWord(arguments, found - 1, argument);
            }
            if (found == needed + 1 && argumentCount() == needed) {
                if (!isAnswerReady(symbol)) {
                    return false;
                }
                found++;
            }
            return isAnchorReady();
        }

        private static int argumentsOf(int symbol) {
            int place = symbol - FIRST_PRIMITIVE;
            return place >= 0 && place < ARGUMENTS.length ? ARGUMENTS[place] : 0;
        }

        /** Whether the parts of a pair and the length of a list are at hand that a primitive needs. */
        private boolean isAnswerReady(int symbol) {
            long one = wordAt(arguments, 0);
            long answer = 1;
            if (symbol == FIRST_SYMBOL && isPairValue(one)) {
                answer = finder.firstOf(one);
            } else if (symbol == REST_SYMBOL && isPairValue(one)) {
                answer = finder.restOf(one);
            } else if (symbol == APPLY_SYMBOL) {
                putWord(arguments, LENGTH, finder.lengthOf(wordAt(arguments, 1)));
                answer = finder.wanted != 0 ? 0 : finder.plainList(wordAt(arguments, 1));
            }
            putWord(arguments, ANSWER, answer);
            return answer != 0;
        }

        /** Whether the arguments that are to be held are at hand. */
        private boolean areArgumentsReady() {
            int count = argumentCount();
            boolean isFromCode = list == 0 && history.isOpen && body.placeOfCall() != 0;
            if (!isFromCode || count <= 0 || count > MOST_ARGUMENTS) {
                return true;
            }
            if (heldCount == 0 && count <= FEW_ARGUMENTS && history.isRoomy()) {
                boolean areKnown = true;
                for (int i = 0; i < count; i++) {
                    putWord(held, i, body.plainAt(body.start + 1 + i));
                    areKnown = areKnown && wordAt(held, i) != 0;
                }
                heldCount = areKnown ? count : 0;
            }
            if (heldCount == 0 && !isHeldNow(count)) {
                return true;
            }
            for (; heldCount < count; heldCount++) {
                long argument = body.valueAt(body.start + 1 + heldCount);
                if (argument == 0) {
                    return false;
                }
                putWord(held, heldCount, argument);
            }
            return true;
        }

        /** Whether it is known what the variables are that an anchor is to have, if one is due. */
        private boolean isAnchorReady() {
            if (anchoredCount == 0 && !(history.isOpen && settings.isAnchorDue())) {
                return true;
            }
            if (anchoredCount == 0) {
                settings.addRecent();
                anchoredCount = 1;
            }
            int count = settings.countOfAnchor();
            for (; anchoredCount <= count; anchoredCount++) {
                int environment = settings.recentEnvironment(anchoredCount - 1);
                int place = settings.recentPlace(anchoredCount - 1);
                long value = environment == 0 ? store.globalValue(place) : valueNow(environment, place);
                if (value == 0 && environment != 0) {
                    return false;
                }
                putWord(anchored, anchoredCount - 1, value == 0 ? NOTHING : value);
            }
            return true;
        }

        /** What a variable is; 0 if it is being looked for. */
        private long valueNow(int environment, int place) {
            long found = settings.known(environment, place);
            int setting = found == 0 ? settings.settingOf(environment, place) : -1;
            long content = setting < 0 ? Settings.ahead(environment, place) : settings.contentOf(setting);
            if (found != 0 || Settings.isValue(content)) {
                return found != 0 ? found : content;
            }
            found = finder.variableAhead(Settings.environmentAhead(content), Settings.placeAhead(content));
            if (found != 0 && setting >= 0) {
                settings.setContent(setting, found);
            }
            if (found != 0) {
                settings.remember(environment, place, found, settings.isMerging);
            }
            return found;
        }

        /** Applies the procedure. */
        private void perform() {
            boolean isFromCode = list == 0 && history.isOpen && body.placeOfCall() != 0;
            closeInterval(0);
            fuel--;
            tellLeft();
            count(APPLICATIONS, 1);
            count(APPLICATIONS_OF_RUN, 1);
            long procedure = wordAt(arguments, PROCEDURE);
            found = 0;
            due = 0;
            if (tagOf(procedure) == CLOSURE) {
                bind(procedure, isFromCode);
            } else if (isPrimitive(procedure)) {
                applyPrimitive(atomNumber(procedure));
            } else if (tagOf(procedure) == CONTINUATION && argumentCount() == 1) {
                jump((int) (procedure >>> VALUE_BITS), wordAt(arguments, 0), 0);
            } else {
                body.mode = tagOf(procedure) == CONTINUATION ? 'a' : 'n';
            }
            list = 0;
            heldCount = 0;
            if (due != 0) {
                body.leave();
                control(due, wordAt(arguments, 0), wordAt(arguments, 1), wordAt(arguments, 2));
            }
        }

        /** Begins with the body of a closure. */
        private void bind(long closure, boolean isFromCode) {
            int act = actOf(closure);
            int program = history.programOf(act);
            int offset = (int) (closure >>> VALUE_BITS) & OFFSET_MASK;
            int info = store.word(program, offset + 1);
            int parameters = info >> 1 & REST - 1;
            boolean hasRest = (info & 1) != 0;
            int count = argumentCount();
            if (count < parameters || count > parameters && !hasRest) {
                body.mode = 'a';
                return;
            }
            boolean hasVariables = parameters > 0 || hasRest;
            int around = history.environmentOf(act);
            int sets = info >>> SETS_SHIFT & SETS_MASK;
            body.leave();
            history.openBody(program << OFFSET_BITS | offset, body.behind, around, hasVariables, sets);
            if (hasVariables) {
                noteArguments(count, hasRest, isFromCode);
                rememberArguments(parameters, hasRest, count);
            }
            body.startWith(program, offset, hasVariables ? history.now : around);
            finder.forget();
        }

        /** Notes where the arguments are found, if not in the call that the interval before ended with. */
        private void noteArguments(int count, boolean hasRest, boolean isFromCode) {
            if (list != 0) {
                history.addExtra(History.LIST_EXTRA, count);
                history.add(list);
            } else if (heldCount > 0) {
                history.addExtra(History.ARGUMENTS_EXTRA, count);
                for (int i = 0; i < count; i++) {
                    history.add(wordAt(held, i));
                }
            } else if (!isFromCode && count == 1) {
                history.addExtra(History.ONE_EXTRA, 1);
                history.add(body.plainAt(body.start + 1));
            } else if (hasRest) {
                history.addExtra(History.COUNT_EXTRA, count);
            }
        }

        private void rememberArguments(int parameters, boolean hasRest, int count) {
            for (int i = 0; i < parameters && list == 0; i++) {
                long argument = heldCount > 0 ? wordAt(held, i) : body.plainAt(body.start + 1 + i);
                if (argument != 0) {
                    settings.rememberNew(history.now, i, argument);
                }
            }
            if (hasRest) {
                settings.rememberNew(history.now, parameters | REST, Finder.view(history.now, parameters, count));
            }
        }

        /** Applies a primitive; one that changes what is still to be done is then due. */
        private void applyPrimitive(int symbol) {
            if (argumentCount() != argumentsOf(symbol)) {
                body.mode = 'a';
                return;
            }
            if (symbol >= FIRST_CONTROL && symbol != NOT_SYMBOL) {
                due = symbol;
                return;
            }
            long one = wordAt(arguments, 0);
            long answer = -'t';
            if (symbol != FIRST_SYMBOL && symbol != REST_SYMBOL) {
                answer = answerOf(symbol, one, wordAt(arguments, 1));
            } else if (isPairValue(one)) {
                answer = wordAt(arguments, ANSWER);
            }
            if (answer < 0 && answer > -256) {
                body.mode = (int) -answer;
            } else {
                body.giveForCall(answer);
            }
        }

        /** What a primitive comes to, but for first and rest; below 0 is an error: minus its letter. */
        private long answerOf(int symbol, long one, long other) {
            switch (symbol) {
                case 16:
                    return PAIR | (long) history.addTwo(one, other) << VALUE_BITS;
                case 19:
                    return isPairValue(one) ? TRUE : FALSE;
                case 20:
                    return one == EMPTY ? TRUE : FALSE;
                case 21:
                    return one == other ? TRUE : FALSE;
                case 25:
                    return one == FALSE ? TRUE : FALSE;
                default:
                    return tagOf(one) == NUMBER && tagOf(other) == NUMBER ? reckon(symbol, one, other) : -'t';
            }
        }

        /** The primitives of numbers. No product of two parts in range is over 10 to the 18th: nothing wraps around. */
        private static long reckon(int symbol, long one, long other) {
            long a = numeratorOf(one);
            long b = denominatorOf(one);
            long c = numeratorOf(other);
            long d = denominatorOf(other);
            long answer;
            switch (symbol) {
                case 10:
                    answer = fraction(a * d + c * b, b * d);
                    break;
                case 11:
                    answer = fraction(a * d - c * b, b * d);
                    break;
                case 12:
                    answer = fraction(a * c, b * d);
                    break;
                case 13:
                    if (c == 0) {
                        return -'z';
                    }
                    answer = fraction(a * d, b * c);
                    break;
                case 14:
                    return a * d < c * b ? TRUE : FALSE;
                default:
                    return a == c && b == d ? TRUE : FALSE;
            }
            return answer == 0 ? -'o' : answer;
        }

        private int continuation() {
            return history.addTwo(body.behind | (long) topWind << LINK_BITS, topHandler);
        }

        private void control(int symbol, long one, long other, long third) {
            switch (symbol) {
                case 22:
                    long continuation = CONTINUATION | (long) continuation() << VALUE_BITS;
                    body.applyLater(one);
                    body.push(continuation);
                    break;
                case 23:
                    wind(one, other, third);
                    break;
                case 24:
                    body.applyLater(one);
                    list = wordAt(arguments, ANSWER);
                    listLength = (int) wordAt(arguments, LENGTH);
                    if (listLength < 0) {
                        body.mode = 't';
                    }
                    break;
                case 26:
                    push(PROMPT_FRAME, continuation(), other);
                    body.applyLater(one);
                    break;
                case 27:
                    int prompt = innermostPrompt();
                    if (prompt == 0) {
                        body.mode = 'w';
                    } else {
                        int place = prompt - History.SPECIAL;
                        int target = (int) (history.log.get(place) >>> FRAME_BITS + LINK_BITS) & LINK_MASK;
                        jump(target, one, history.log.get(place + 1));
                    }
                    break;
                case 28:
                    push(HANDLER_FRAME, topHandler, 0);
                    topHandler = history.addTwo(topHandler | (long) countOfHandlers() + 1 << LINK_BITS, one);
                    body.applyLater(other);
                    break;
                default:
                    raise(one);
            }
        }

        private void raise(long raised) {
            if (topHandler == 0) {
                body.mode = 'h';
                return;
            }
            int handler = topHandler;
            push(HANDLER_FRAME, handler, 0);
            topHandler = (int) history.log.get(handler) & LINK_MASK;
            body.applyLater(history.log.get(handler + 1));
            body.push(raised);
        }

        /** The innermost prompt that is still to be come back to; 0 if there is none. */
        private int innermostPrompt() {
            int frame = body.behind;
            for (int i = 0; i < MAX_STEPS && frame != 0; i++) {
                if (frame < History.SPECIAL) {
                    frame = history.behind(history.actOf(frame, History.END));
                } else {
                    long word = history.log.get(frame - History.SPECIAL);
                    if ((word & FRAME_MASK) == PROMPT_FRAME) {
                        return frame;
                    }
                    frame = (int) (word >>> FRAME_BITS) & LINK_MASK;
                }
            }
            return 0;
        }

        // ---- winds and jumps

        // A wind is four words: the wind around it, and one further out, so that any that is around is found in a few steps;
        // before; after; the handlers around it, and how many winds there are with it.
        private void wind(long before, long during, long after) {
            int out = furtherOf(topWind);
            int further = furtherOf(out);
            boolean isEven = depthOf(topWind) - depthOf(out) == depthOf(out) - depthOf(further);
            int far = topWind != 0 && isEven ? further : topWind;
            int wind = history.addTwo(topWind | (long) far << LINK_BITS, before);
            history.addTwo(after, topHandler | (long) depthOf(topWind) + 1 << LINK_BITS);
            push(BEFORE_FRAME, wind, during);
            body.applyLater(before);
        }

        private int aroundOf(int wind) {
            return wind == 0 ? 0 : (int) history.log.get(wind) & LINK_MASK;
        }

        private int furtherOf(int wind) {
            return wind == 0 ? 0 : (int) (history.log.get(wind) >>> LINK_BITS) & LINK_MASK;
        }

        private int handlersOf(int wind) {
            return (int) history.log.get(wind + 3) & LINK_MASK;
        }

        private int depthOf(int wind) {
            return wind == 0 ? 0 : (int) (history.log.get(wind + 3) >>> LINK_BITS);
        }

        /** Jumps to a continuation, where the value goes on, or is taken by a procedure. */
        private void jump(int target, long carried, long taker) {
            count(JUMPS, 1);
            int goal = history.addTwo(target, carried);
            history.add(taker);
            int winds = (int) (history.log.get(target) >>> LINK_BITS) & LINK_MASK;
            body.behind = 0;
            push(JUMP_FRAME, goal, innermostOfBoth(topWind, winds));
            body.end(NOTHING);
        }

        /** The wind at this depth that is around a wind, or is that one. */
        private int windAround(int wind, int depth) {
            int around = wind;
            for (int i = 0; i < MAX_STEPS && around != 0 && history.log.get(around + 3) >>> LINK_BITS > depth; i++) {
                int further = (int) (history.log.get(around) >>> LINK_BITS) & LINK_MASK;
                boolean isWithin = (further == 0 ? 0 : history.log.get(further + 3) >>> LINK_BITS) >= depth;
                around = isWithin ? further : (int) history.log.get(around) & LINK_MASK;
            }
            return around;
        }

        private int innermostOfBoth(int one, int other) {
            int a = windAround(one, depthOf(other));
            int b = windAround(other, depthOf(one));
            for (int i = 0; i < MAX_STEPS && a != b; i++) {
                boolean isFar = furtherOf(a) != furtherOf(b);
                a = isFar ? furtherOf(a) : aroundOf(a);
                b = isFar ? furtherOf(b) : aroundOf(b);
            }
            return a;
        }

        /** Leaves the next wind that the goal is not in, or enters the next one that it is in, or arrives. */
        private void goOnWithJump(int goal, int staying) {
            long target = history.log.get((int) history.log.get(goal));
            int innermost = (int) (target >>> LINK_BITS) & LINK_MASK;
            body.behind = (int) target & LINK_MASK;
            if (topWind != staying && topWind != 0) {
                push(JUMP_FRAME, goal, staying);
                leaveWind(topWind);
            } else if (staying != innermost) {
                int next = windAround(innermost, depthOf(staying) + 1);
                push(ENTER_FRAME, goal, next);
                topHandler = handlersOf(next);
                body.applyLater(history.log.get(next + 1));
            } else {
                topHandler = (int) history.log.get((int) history.log.get(goal) + 1) & LINK_MASK;
                history.noteArrival();
                arrive(history.log.get(goal + 1), history.log.get(goal + 2));
            }
        }

        private void arrive(long carried, long taker) {
            if (taker == 0) {
                body.end(carried);
            } else {
                body.applyLater(taker);
                body.push(carried);
            }
        }
    }
}
