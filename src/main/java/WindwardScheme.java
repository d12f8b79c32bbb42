import java.util.NoSuchElementException;

/**
 * A small Scheme whose programs are data, laid by calls or read from text, and run by units of fuel.
 *
 * <p>All that programs make lives in one heap of equal cells that are used again when nothing reaches them, so that a
 * long row of calls needs no more room than what is still in use. A cell is named by a number; 0 is no cell.
 */
public final class WindwardScheme {
    // The limits of the document.
    private static final int MAX_DATA = 3000;
    private static final int MAX_LAID_DEPTH = 60;
    private static final int MAX_MADE_DEPTH = 100;
    private static final int MAX_SIZE = 3000;
    private static final int MAX_AMOUNT = 1000000000;
    private static final int MAX_TEXT = 500;
    private static final int MAX_FUEL = 500;
    private static final int MAX_FORMS_AROUND = 100;
    private static final int MAX_EXPANSIONS = 200;
    private static final int SYMBOLS = 60;

    // The symbols that mean something from the first.
    private static final int QUOTE_SYMBOL = 0;
    private static final int IF_SYMBOL = 1;
    private static final int LAMBDA_SYMBOL = 2;
    private static final int DEFINE_SYMBOL = 3;
    private static final int SET_SYMBOL = 4;
    private static final int BEGIN_SYMBOL = 5;
    private static final int SYNTAX_SYMBOL = 6;
    private static final int ELLIPSIS_SYMBOL = 7;
    private static final int BLANK_SYMBOL = 8;
    private static final int FIRST_PRIMITIVE = 10;
    private static final int LAST_PRIMITIVE = 29;

    // What a symbol can be.
    private static final int UNKNOWN = 0;
    private static final int KEYWORD = 1;
    private static final int MACRO = 2;
    private static final int VARIABLE = 3;

    // Kinds of cells: data and other values.
    private static final int FREE = 0;
    private static final int NUMBER = 1; // numerator, denominator
    private static final int SYMBOL = 2; // its number
    private static final int RENAMED = 3; // the name under it, its mark
    private static final int TRUTH = 4; // 1 or 0
    private static final int EMPTY = 5;
    private static final int PAIR = 6; // first part, other part, measure or, if a program made it, length; note: see Expander
    private static final int NOTHING = 7;
    private static final int CLOSURE = 8; // lambda, environment, stamp; note: its parameters
    private static final int PRIMITIVE = 9; // its symbol
    private static final int CONTINUATION = 10; // frames, winds, handlers
    private static final int VIEW = 11; // what it is a list of, place in it, stamp; note: how many values a row has
    private static final int QUOTED = 12; // a pair of a program: see Store, nothing, stamp
    // Kinds of cells: what macros and lambdas are seen by.
    private static final int LINK = 13; // item, next
    private static final int SCOPE = 14; // name, next; note: see Expander
    private static final int BINDING = 15; // name or pattern, next, what it matches; note: pattern of a row: see Macros
    // Kinds of cells: rows of values: see Values.
    private static final int ITEMS = 16; // three values; note: next
    private static final int ARGUMENTS = 17; // row, place of the call in code or 0, height of the call; note: see Values
    private static final int JOINED = 18; // row from a height on, row below, height
    private static final int LISTED = 19; // list, list for the rest or 0, how many of its parts are bound
    // Kinds of cells: episodes, which are rows, too.
    private static final int BEGUN = 20; // slot of a body, environment, stamp; note: program and tests
    private static final int RESUMED = 21; // value or TESTS, environment, stamp; note: path
    // Kinds of cells: what variables are bound to: see Variables.
    private static final int ONE_ENVIRONMENT = 22; // value or version, the environment around
    private static final int ENVIRONMENT = 23; // row or version, the one around, see Values; note: versions, SEEN
    private static final int SETTING = 24; // value, the version before, stamp; note: place
    private static final int SETTINGS = 25; // episode, the version before, stamp; note: mask of places
    private static final int GROUPED = 26; // its newest settings in a group, the version before, stamp; note: the group
    private static final int ALL_SET = 27; // row, the version before, stamp; note: the one before of this kind
    private static final int GROUP = 28; // the newest settings of some environments
    private static final int GROUP_SETTINGS = 29; // episode, the settings before, stamp; note: mask of variables
    private static final int MEANING = 30; // literals and rules, what was before; note: symbol and meaning
    // Kinds of cells: what is still to be done.
    private static final int PATH = 31; // slot of the form that waits, its part at hand, height of the values; note: program
    private static final int BODY_FRAME = 32; // row of values, next, environment; note: path
    private static final int HANDLER_FRAME = 33; // handlers to come back to, next
    private static final int PROMPT_FRAME = 34; // handler, next, continuation of the prompt
    private static final int BEFORE_FRAME = 35; // wind, next, during
    private static final int DURING_FRAME = 36; // wind, next
    private static final int AFTER_FRAME = 37; // value, next
    private static final int JUMP_FRAME = 38; // goal, next, innermost wind that stays
    private static final int ENTER_FRAME = 39; // goal, next, wind to be entered
    // Kinds of cells: what frames and registers hold.
    private static final int WIND = 40; // thunks, the wind around it, handlers; note: a wind further out
    private static final int THUNKS = 41; // before, after, how many winds there are with it
    private static final int HANDLER = 42; // procedure, the handler around it, how many handlers there are with it
    private static final int GOAL = 43; // continuation, value, procedure that takes it or 0
    private static final int TESTS = 44; // the value that an episode went on with, what its tests came to: see Values

    // The fields of a cell that name other cells, by kind: 1 the first field, 2 the second, 4 the third, 8 the note.
    private static final byte[] REFERENCES = {
        0, 0, 0, 1, 0, 0, 3, 0, 2, 0, 7, 1, 0, 3, 3, 7, 15, 1, 3, 3, 2, 11, 3, 3, 3, 3, 11, 3, 1, 3, 3, 0, 15, 3, 7, 7, 3, 3,
        7, 7, 15, 3, 3, 7, 1
    };

    // The fields of cells, by the names that fit their kinds.
    private static final int HEAD = 0;
    private static final int FIRST = 1;
    private static final int REST = 2;
    private static final int MEASURE = 3;
    private static final int AMOUNT = 1;
    private static final int DENOMINATOR = 2;
    private static final int UNDER = 1;
    private static final int MARK = 2;
    private static final int CODE = 1;
    private static final int AROUND = 2;
    private static final int STAMP = 3;
    private static final int ITEM = 1;
    private static final int NEXT = 2;
    private static final int EXTRA = 3;
    private static final int FRAMES = 1;
    private static final int WINDS = 2;
    private static final int HANDLERS = 3;

    // What a slot of code holds, by its lowest bits.
    private static final int CALL = 0; // where its slots are
    private static final int BRANCH = 1; // where its slots are
    private static final int SEQUENCE = 2; // where its slots are
    private static final int OTHER = 3; // where the node is; what follows is not in the image
    private static final int CONSTANT = 4; // cell
    private static final int QUOTATION = 5; // cell
    private static final int LOCAL = 6; // place among the variables of its lambda, how many environments out
    private static final int GLOBAL = 7; // symbol
    private static final int TAG_MASK = 7;
    private static final int ACTIVE = 8; // there is a call, a test or a setting in it
    private static final int SLOT_SHIFT = 4;
    private static final int DEPTH_OUT_SHIFT = 15;
    private static final int PLACE_MASK = 2047;

    // The nodes of code, by their first number. Ahead of slots and nodes of forms that can wait are the slot of the form around
    // and which of its slots this is.
    private static final int LAMBDA = 0; // twice the parameters and 1 for a rest, the slots of the body
    private static final int SET_LOCAL = 2; // variable, slot
    private static final int SET_GLOBAL = 3; // symbol, slot
    private static final int DEFINITION = 4; // symbol, slot
    private static final int SYNTAX = 5; // symbol
    private static final int QUOTE = 6; // where the first pair is
    private static final int BODY_PLACE = 2; // of the slots in a lambda; nothing is around them, as its first number is 0
    private static final int OFFSET_BITS = 21; // of a place in the code of a program, as far as cells hold it
    private static final int OFFSET_MASK = (1 << 21) - 1;
    // How many variables an environment has, with the place of the call of its arguments above; how many arguments are bound
    // one by one, whether there is a rest, and how many there are.
    private static final int COUNT_BITS = 11;
    private static final int COUNT_MASK = 2047;
    private static final int HAS_REST = 2048;
    private static final int SEEN = 1 << 22; // in the note of an environment: by an episode, since it was set

    // The cells that are always there, in the order in which Store makes them.
    private static final int FIRST_SYMBOL_CELL = 1;
    private static final int FALSE_CELL = 61;
    private static final int TRUE_CELL = 62;
    private static final int EMPTY_CELL = 63;
    private static final int NOTHING_CELL = 64;
    private static final int PRIMITIVE_CELLS = 55;

    // The measure of a pair: its size, its depth, and whether a renamed symbol is in it.
    private static final int SIZE_MASK = 4095;
    private static final int DEPTH_SHIFT = 12;
    private static final int DEPTH_MASK = 127;
    private static final int RENAMED_INSIDE = 1 << 19;
    private static final int MEASURE_OF_ONE = 1 << 12 | 1;

    // The heap: a cell is two words of a chunk, each with two of its fields; the head is kind, flags and note.
    private static final int CHUNK_BITS = 10;
    private static final int CHUNK_CELLS = 1024;
    private static final int MAX_CHUNKS = 2900;
    // Chunks and pages of programs take their room from the same one. Pages leave as many words as the applications can need
    // that are still to come; the number of calls is known by what has been laid, begun and run.
    private static final int MOST_WORDS = 6600000;
    private static final int PAGE_WORDS = 256;
    private static final int MAX_CALLS = 512;
    private static final int WORDS_OF_CALL = 10000;
    private static final int MAX_CELLS = MAX_CHUNKS * CHUNK_CELLS;
    private static final long LOW_WORD = 0xFFFFFFFFL;
    private static final int KIND_MASK = 63;
    private static final int MARKED = 64;
    private static final int KEPT = 128;
    private static final int GRAY = 256;
    private static final int NOTE_SHIFT = 9;
    private static final int NOTE_BITS = 23;
    private static final int PROGRAM_BITS = 10; // of a program in a note
    private static final int PROGRAM_MASK = 1023;
    // Cells that are free ahead of each step, so that none is looked for within it: of one that is small, and of one in
    // which a datum or list as large as can be is made. And those that stay free for data.
    private static final int STEP = 1024;
    private static final int SLACK = 8192;
    private static final int RESERVE = 65536;

    // Bounds of loops and recursions that no run comes near to.
    private static final int MAX_STEPS = 2000000000;
    private static final int MAX_LEVEL = 104;
    private static final int MAX_ROW = 163840;

    private final Store store;
    private final Writer writer;
    private final Reader reader;
    private final Expander expander;
    private final Machine machine;

    public WindwardScheme() {
        Heap heap = new Heap();
        Store laid = new Store(heap);
        Values values = new Values(heap, laid);
        Variables variables = new Variables(heap, laid, values);
        Body body = new Body(heap, laid, values, variables);
        store = laid;
        writer = new Writer(heap, laid, values, body);
        reader = new Reader();
        expander = new Expander(heap, laid);
        machine = new Machine(heap, values, variables, body);
    }

    // ---- data

    public int number(int numerator, int denominator) throws IllegalArgumentException, IllegalStateException {
        if (!Store.fits(numerator, denominator)) {
            throw new IllegalArgumentException("the denominator is 0, or the number is out of range");
        }
        needRoomForOne();
        store.makeRoom();
        return needLaid(store.layNumber(numerator, denominator));
    }

    public int symbol(int symbol) throws IllegalArgumentException, IllegalStateException {
        needSymbol(symbol);
        return needLaid(store.lay(FIRST_SYMBOL_CELL + symbol));
    }

    public int truth(boolean isTrue) throws IllegalStateException {
        return needLaid(store.lay(isTrue ? TRUE_CELL : FALSE_CELL));
    }

    public int empty() throws IllegalStateException {
        return needLaid(store.lay(EMPTY_CELL));
    }

    public int pair(int first, int rest) throws IndexOutOfBoundsException, IllegalStateException {
        needDatum(first);
        needDatum(rest);
        needRoomForOne();
        store.makeRoom();
        return needLaid(store.layPair(first, rest));
    }

    public int data() {
        return store.count;
    }

    public char kind(int datum) throws IndexOutOfBoundsException {
        needDatum(datum);
        return store.letterOf(store.cellOf(datum));
    }

    public int part(int datum, boolean isFirst) throws IndexOutOfBoundsException, UnsupportedOperationException {
        needDatum(datum);
        if (kind(datum) != 'p') {
            throw new UnsupportedOperationException("no pair");
        }
        return store.partOf(datum, isFirst);
    }

    public long amount(int datum) throws IndexOutOfBoundsException, UnsupportedOperationException {
        char letter = kind(datum);
        if (letter != 'n' && letter != 's' && letter != 't') {
            throw new UnsupportedOperationException("neither a number nor a name nor a truth");
        }
        return store.amountOf(datum);
    }

    public double asDouble(int datum) throws IndexOutOfBoundsException, UnsupportedOperationException {
        if (kind(datum) != 'n') {
            throw new UnsupportedOperationException("no number");
        }
        return store.quotientOf(datum);
    }

    public boolean areAlike(int datum, int other) throws IndexOutOfBoundsException {
        needDatum(datum);
        needDatum(other);
        return store.areShapedAlike(store.cellOf(datum), store.cellOf(other));
    }

    // ---- text

    public int write(int datum) throws IndexOutOfBoundsException, UnsupportedOperationException {
        needDatum(datum);
        writer.start(false, store.cellOf(datum));
        writer.goOn();
        return needWritten(writer.finish());
    }

    public int writeExpanded(int datum)
            throws IndexOutOfBoundsException, IllegalArgumentException, UnsupportedOperationException {
        needDatum(datum);
        if (!expander.expand(store.begunProgram(0, store.cellOf(datum)))) {
            throw new IllegalArgumentException("the program is wrong");
        }
        writer.start(true, store.slotOf(0));
        writer.goOn();
        return needWritten(writer.finish());
    }

    public char charAt(int index) throws IndexOutOfBoundsException {
        if (index < 0 || index >= writer.length) {
            throw new IndexOutOfBoundsException("no such place in the text");
        }
        return writer.signAt(index);
    }

    public int type(char character) throws IllegalArgumentException, IllegalStateException {
        if (character < 32 || character > 126) {
            throw new IllegalArgumentException("the character is out of range");
        }
        if (writer.length >= MAX_TEXT) {
            throw new IllegalStateException("the text is full");
        }
        return writer.append(character);
    }

    public int clear() {
        return writer.forget();
    }

    public int read() throws IllegalArgumentException, IllegalStateException {
        if (!reader.takes(writer)) {
            throw new IllegalArgumentException("the text is no datum");
        }
        if (reader.needed > MAX_DATA - store.count) {
            throw new IllegalStateException("there would be too many data");
        }
        store.makeRoom();
        return needLaid(reader.layAll(store));
    }

    // ---- running

    public char begin(int datum) throws IndexOutOfBoundsException {
        needDatum(datum);
        machine.stop();
        int program = store.newProgram(store.cellOf(datum));
        boolean isRight = program != 0 && expander.expand(program);
        machine.count(Machine.EXPANSIONS, program == 0 ? 0 : expander.used);
        return machine.start(program, isRight ? store.slotOf(program) : 0, program == 0 ? 'o' : expander.letter);
    }

    public char run(int fuel) throws IllegalStateException, IllegalArgumentException {
        needBegun();
        if (fuel < 1 || fuel > MAX_FUEL) {
            throw new IllegalArgumentException("the number of applications is out of range");
        }
        machine.refuel(fuel);
        int wanted = machine.goOn();
        for (int i = 0; i < MAX_STEPS && wanted != 0; i++) {
            machine.takeProgram(expander.expand(wanted));
            wanted = machine.goOn();
        }
        return machine.stateNow();
    }

    public char state() throws IllegalStateException {
        needBegun();
        return machine.stateNow();
    }

    public char valueKind() throws IllegalStateException, NoSuchElementException {
        needValue();
        return store.letterOf(machine.result());
    }

    public long valueAmount() throws IllegalStateException, NoSuchElementException, UnsupportedOperationException {
        needValue();
        if (store.letterOf(machine.result()) != 'n') {
            throw new UnsupportedOperationException("the value is no number");
        }
        return store.firstFieldOf(machine.result());
    }

    public int writeValue() throws IllegalStateException, NoSuchElementException, UnsupportedOperationException {
        needValue();
        writer.start(false, machine.result());
        int wanted = writer.goOn();
        for (int i = 0; i < MAX_STEPS && wanted != 0; i++) {
            writer.takeProgram(expander.expand(wanted));
            wanted = writer.goOn();
        }
        return needWritten(writer.finish());
    }

    public char error() throws IllegalStateException, NoSuchElementException {
        needBegun();
        if (machine.stateNow() != 'e') {
            throw new NoSuchElementException("the run did not end with an error");
        }
        return machine.letter();
    }

    public int winds() throws IllegalStateException {
        needBegun();
        return machine.countOfWinds();
    }

    public int handlers() throws IllegalStateException {
        needBegun();
        return machine.countOfHandlers();
    }

    public int writeGlobal(int symbol)
            throws IllegalArgumentException, NoSuchElementException, UnsupportedOperationException {
        needSymbol(symbol);
        int global = store.globalValue(symbol);
        if (global == 0) {
            throw new NoSuchElementException("no global variable with a value");
        }
        writer.start(false, global);
        int wanted = writer.goOn();
        for (int i = 0; i < MAX_STEPS && wanted != 0; i++) {
            writer.takeProgram(expander.expand(wanted));
            wanted = writer.goOn();
        }
        return needWritten(writer.finish());
    }

    public char meaning(int symbol) throws IllegalArgumentException {
        needSymbol(symbol);
        switch (store.meaningOf(symbol)) {
            case KEYWORD:
                return 'k';
            case MACRO:
                return 'm';
            case VARIABLE:
                return 'v';
            default:
                return '-';
        }
    }

    // ---- counts

    public long applications() {
        return machine.tally(Machine.APPLICATIONS);
    }

    public int expansions() {
        return (int) machine.tally(Machine.EXPANSIONS);
    }

    public int entered() {
        return (int) machine.tally(Machine.ENTERED);
    }

    public int left() {
        return (int) machine.tally(Machine.LEFT);
    }

    public int jumps() {
        return (int) machine.tally(Machine.JUMPS);
    }

    public float valueShare() throws ArithmeticException {
        needEnded();
        return (float) machine.tally(Machine.ENDED_WITH_VALUE) / (float) machine.tally(Machine.ENDED);
    }

    public double meanApplications() throws ArithmeticException {
        needEnded();
        return (double) machine.tally(Machine.APPLICATIONS_OF_ENDED) / (double) machine.tally(Machine.ENDED);
    }

    public boolean isSound() {
        long around = machine.tally(Machine.ENTERED) - machine.tally(Machine.LEFT);
        return store.areDataSound() && around == machine.tally(Machine.ABANDONED) + machine.countOfWinds();
    }

    // ---- what the calls need

    private void needDatum(int datum) {
        if (!store.has(datum)) {
            throw new IndexOutOfBoundsException("no such datum");
        }
    }

    private void needSymbol(int symbol) {
        if (symbol < 0 || symbol >= SYMBOLS) {
            throw new IllegalArgumentException("no such symbol");
        }
    }

    private void needRoomForOne() {
        if (store.count >= MAX_DATA) {
            throw new IllegalStateException("there are too many data");
        }
    }

    private static int needLaid(int datum) {
        if (datum < 0) {
            throw new IllegalStateException("the datum cannot be laid");
        }
        return datum;
    }

    private static int needWritten(int length) {
        if (length < 0) {
            throw new UnsupportedOperationException("the text would be too long");
        }
        return length;
    }

    private void needBegun() {
        if (!machine.isBegun()) {
            throw new IllegalStateException("no program was begun");
        }
    }

    private void needValue() {
        needBegun();
        if (machine.letter() != 'v') {
            throw new NoSuchElementException("the run did not end with a value");
        }
    }

    private void needEnded() {
        if (machine.tally(Machine.ENDED) == 0) {
            throw new ArithmeticException("no run has ended");
        }
    }

    /** A row of numbers, two in each word; outside of it there are zeros. Up to its most it grows when one is put behind it. */
    private static final class Row {
        private final int most;
        private long[] words;
        int used; // how many of them count, where others may lie behind them

        Row(int length, int most) {
            this.most = most;
            words = new long[length <= 0 ? 0 : length + 1 >> 1];
            used = length;
        }

        int get(int index) {
            int place = index >> 1;
            return index >= 0 && place < words.length ? (int) (words[place] >>> ((index & 1) << 5)) : 0;
        }

        void put(int index, int number) {
            int place = index >> 1;
            if (place >= words.length && index < most) {
                long[] more = new long[Math.min(most + 1 >> 1, Math.max(place + 1, 4 * words.length))];
                System.arraycopy(words, 0, more, 0, words.length);
                words = more;
            }
            if (index >= 0 && place < words.length) {
                boolean isLow = (index & 1) == 0;
                long old = words[place];
                words[place] = isLow ? old & ~LOW_WORD | number & LOW_WORD : old & LOW_WORD | (long) number << 32;
            }
        }

        void add(int number) {
            put(used, number);
            used++;
        }

        void fillWithZeros() {
            for (int i = 0; i < words.length; i++) {
                words[i] = 0;
            }
        }
    }

    /** Cells, each with a head and three fields. Those that no root reaches are found by collect() and used again. */
    private static final class Heap {
        private static final int MAX_ROOTS = 24;
        private static final int MIN_DUE = 8192;
        private static final int MAX_STACK = 8192;
        // Few cells are known again in a small heap.
        private static final int SHARED = 16384;
        private static final int SHARED_SHIFT = 18;
        private static final int FEW_SHARED_SHIFT = 22;
        private static final int FEW_CHUNKS = 64;
        // What was found is known for a while, in sets of a few entries each; more of them if much is forgotten.
        private static final int WAYS = 4;
        private static final int ENTRY = 4;
        private static final int KNOWN_SHIFT = 18;
        private static final int FEW_KNOWN_SHIFT = 24;
        private static final int MOST_FORGOTTEN = 4; // times the number of entries

        private final Row[] chunks;
        private int chunkCount;
        private final Row[] roots; // cells
        private int rootCount;
        private final Row shared;
        private Row memo; // cell, place, and what was found there
        private int knownShift;
        private int forgotten; // of what was known, since there were so many entries
        private int[] stack;
        private int stacked;
        private boolean isStackShort;
        private int free;
        int freeCells;
        int pages;
        int calls;
        private int made;
        private int due;
        private int live;
        int collections;

        Heap() {
            chunks = new Row[MAX_CHUNKS];
            roots = new Row[MAX_ROOTS];
            due = MIN_DUE;
            shared = new Row(16, SHARED);
            memo = new Row(0, 0);
            knownShift = FEW_KNOWN_SHIFT;
            addChunk();
        }

        /** A new row of cells that stay as long as they stand in it. */
        Row newRoots(int length, int most) {
            Row row = new Row(length, most);
            if (rootCount < roots.length) {
                roots[rootCount] = row;
                rootCount++;
            }
            return row;
        }

        /** Lets so many cells be free, if that can be; whether a reserve is left besides. */
        boolean makeRoom(int cells, int reserve) {
            if (made >= due) {
                collect();
            }
            addChunks(cells);
            if (made > 0 && spareCells() < cells + reserve) {
                collect();
                addChunks(cells);
            }
            return spareCells() >= cells + reserve;
        }

        int cells() {
            return chunkCount * CHUNK_CELLS;
        }

        private int mostChunks() {
            return Math.min(MAX_CHUNKS, (MOST_WORDS - pages * PAGE_WORDS) / (2 * CHUNK_CELLS));
        }

        /** How many pages there may be, so that there is room for the cells that may still be needed. */
        int mostPages() {
            int words = Math.max(0, MAX_CALLS - calls) * WORDS_OF_CALL + chunkCount * 2 * CHUNK_CELLS;
            return (MOST_WORDS - words) / PAGE_WORDS;
        }

        private int spareCells() {
            return freeCells + Math.max(0, mostChunks() - chunkCount) * CHUNK_CELLS;
        }

        private void addChunks(int cells) {
            int most = mostChunks();
            for (int i = 0; i < MAX_CHUNKS && freeCells < cells && chunkCount < most; i++) {
                addChunk();
            }
        }

        private void addChunk() {
            if (chunkCount >= chunks.length) {
                return;
            }
            chunks[chunkCount] = new Row(4 * CHUNK_CELLS, 0);
            int first = Math.max(1, chunkCount * CHUNK_CELLS);
            chunkCount++;
            for (int cell = chunkCount * CHUNK_CELLS - 1; cell >= first; cell--) {
                put(cell, ITEM, free);
                free = cell;
                freeCells++;
            }
        }

        /** A new cell; 0 if none is free. */
        int make(int cellKind, int note, int one, int two, int three) {
            int cell = free;
            int place = cell >> CHUNK_BITS;
            int index = (cell & CHUNK_CELLS - 1) << 1;
            if (cell <= 0 || place >= chunks.length || chunks[place] == null || index + 1 >= chunks[place].words.length) {
                return 0;
            }
            long[] words = chunks[place].words;
            free = (int) (words[index] >>> 32);
            words[index] = (cellKind | note << NOTE_SHIFT) & LOW_WORD | (long) one << 32;
            words[index + 1] = two & LOW_WORD | (long) three << 32;
            freeCells--;
            made++;
            return cell;
        }

        /** Lets a cell be another one from now on. */
        void remake(int cell, int cellKind, int note, int one, int two) {
            put(cell, HEAD, at(cell, HEAD) & (MARKED | KEPT | GRAY) | cellKind | note << NOTE_SHIFT);
            put(cell, ITEM, one);
            put(cell, NEXT, two);
        }

        /** A cell that is never changed: one like it that was made before, if that is still known. */
        int makeShared(int cellKind, int note, int one, int two, int three) {
            int hash = ((((cellKind * 31 + note) * 31 + one) * 31 + two) * 31 + three) * 0x9E3779B1;
            int place = hash >>> (chunkCount < FEW_CHUNKS ? FEW_SHARED_SHIFT : SHARED_SHIFT);
            int cell = shared.get(place);
            if (cell != 0
                    && (at(cell, HEAD) & ~(MARKED | KEPT | GRAY)) == (cellKind | note << NOTE_SHIFT)
                    && at(cell, 1) == one
                    && at(cell, 2) == two
                    && at(cell, 3) == three) {
                return cell;
            }
            cell = make(cellKind, note, one, two, three);
            shared.put(place, cell);
            return cell;
        }

        /** What was found for a cell and a place; 0 if that is not known, or not any more. */
        int known(int cell, int place) {
            int first = ((cell * 0x9E3779B1 + place * 0x7FEB352D) * 0x85EBCA6B >>> knownShift) * WAYS * ENTRY >> 1;
            long key = cell & LOW_WORD | (long) place << 32;
            long[] words = memo.words;
            for (int i = first; i < first + WAYS * ENTRY / 2 && i + 1 < words.length; i += ENTRY / 2) {
                if (words[i] == key) {
                    return (int) words[i + 1];
                }
            }
            return 0;
        }

        /** Keeps what was found for a cell and a place, ahead of what has been known for longer. */
        void know(int cell, int place, int value) {
            long[] words = memo.words;
            int first = ((cell * 0x9E3779B1 + place * 0x7FEB352D) * 0x85EBCA6B >>> knownShift) * WAYS * ENTRY >> 1;
            int last = first + (WAYS - 1) * ENTRY / 2;
            if (first < 0 || last + 1 >= words.length) {
                forgotten++;
                return;
            }
            long key = cell & LOW_WORD | (long) place << 32;
            for (int i = last; i >= first; i -= 2) {
                last = words[i] == key ? i : last;
            }
            forgotten += words[last] == key || words[last] == 0 ? 0 : 1;
            for (int i = last; i > first; i -= 2) {
                words[i] = words[i - 2];
                words[i + 1] = words[i - 1];
            }
            words[first] = key;
            words[first + 1] = value & LOW_WORD;
        }

        /** Lets more be known, if much is forgotten. */
        void growKnown() {
            int entries = memo.words.length / (ENTRY / 2);
            if (forgotten <= MOST_FORGOTTEN * entries || entries > 0 && knownShift <= KNOWN_SHIFT) {
                return;
            }
            Row before = memo;
            knownShift = entries == 0 ? FEW_KNOWN_SHIFT : knownShift - 2;
            memo = new Row(WAYS * ENTRY << 32 - knownShift, 0);
            for (int i = 2 * before.words.length - ENTRY; i >= 0; i -= ENTRY) {
                know(before.get(i), before.get(i + 1), before.get(i + 2));
            }
            forgotten = 0;
        }

        int at(int cell, int field) {
            int place = cell >> CHUNK_BITS;
            if (place < 0 || place >= chunks.length || chunks[place] == null) {
                return 0;
            }
            long[] words = chunks[place].words;
            int index = ((cell & CHUNK_CELLS - 1) << 1) + (field >> 1);
            return index >= 0 && index < words.length ? (int) (words[index] >>> ((field & 1) << 5)) : 0;
        }

        void put(int cell, int field, int word) {
            int place = cell >> CHUNK_BITS;
            int index = ((cell & CHUNK_CELLS - 1) << 1) + (field >> 1);
            if (cell <= 0 || place >= chunks.length || chunks[place] == null || index >= chunks[place].words.length) {
                return;
            }
            long[] words = chunks[place].words;
            if (index >= 0) {
                boolean isLow = (field & 1) == 0;
                long old = words[index];
                words[index] = isLow ? old & ~LOW_WORD | word & LOW_WORD : old & LOW_WORD | (long) word << 32;
            }
        }

        int kindOf(int cell) {
            int place = cell >> CHUNK_BITS;
            int index = (cell & CHUNK_CELLS - 1) << 1;
            boolean isThere = place >= 0 && place < chunks.length && chunks[place] != null;
            return isThere && index < chunks[place].words.length ? (int) chunks[place].words[index] & KIND_MASK : FREE;
        }

        int noteOf(int cell) {
            int place = cell >> CHUNK_BITS;
            int index = (cell & CHUNK_CELLS - 1) << 1;
            boolean isThere = place >= 0 && place < chunks.length && chunks[place] != null;
            return isThere && index < chunks[place].words.length ? (int) chunks[place].words[index] >>> NOTE_SHIFT : 0;
        }

        void setNote(int cell, int note) {
            put(cell, HEAD, at(cell, HEAD) & (1 << NOTE_SHIFT) - 1 | note << NOTE_SHIFT);
        }

        /** Gives a cell back that nothing reaches any more. */
        void release(int cell) {
            put(cell, HEAD, FREE);
            put(cell, ITEM, free);
            free = cell;
            freeCells++;
        }

        /** Lets a cell stay for ever; all that it reaches must stay, too. */
        void keep(int cell) {
            put(cell, HEAD, at(cell, HEAD) | KEPT);
        }

        /**
         * Whether the primitive 21 holds. Numbers are the same by what they are; closures and lists may be made again
         * whenever they are looked for, so these are known by all that they are, too.
         */
        boolean areSame(int one, int other) {
            if (one == other) {
                return true;
            }
            int cellKind = kindOf(one);
            boolean isMadeAgain = cellKind == NUMBER || cellKind == CLOSURE || cellKind == VIEW || cellKind == QUOTED;
            return isMadeAgain
                    && kindOf(other) == cellKind
                    && at(one, 1) == at(other, 1)
                    && at(one, 2) == at(other, 2)
                    && at(one, 3) == at(other, 3);
        }

        private void collect() {
            stacked = 0;
            isStackShort = false;
            stack = stack == null ? new int[MAX_STACK] : stack;
            for (int i = 0; i < rootCount && i < roots.length; i++) {
                for (int j = 0; roots[i] != null && j < roots[i].used; j++) {
                    shade(roots[i].get(j));
                }
                scanStacked();
            }
            scanGray();
            scanKnown();
            scanStacked();
            scanGray();
            forgetUnmarked();
            sweep();
            made = 0;
            due = Math.max(MIN_DUE, live / 2);
            collections++;
        }

        /** Marks a cell, and puts it on the stack, so that what it reaches is marked, too. */
        private void shade(int cell) {
            int place = cell >> CHUNK_BITS;
            int index = (cell & CHUNK_CELLS - 1) << 1;
            if (cell <= 0 || place >= chunks.length || chunks[place] == null || index >= chunks[place].words.length) {
                return;
            }
            long[] words = chunks[place].words;
            int head = (int) words[index];
            if ((head & (MARKED | KEPT)) != 0 || (head & KIND_MASK) == FREE) {
                return;
            }
            boolean hasPlace = stack != null && stacked >= 0 && stacked < stack.length;
            words[index] |= hasPlace ? MARKED : MARKED | GRAY;
            if (hasPlace) {
                stack[stacked] = cell;
                stacked++;
            } else {
                isStackShort = true;
            }
        }

        private void scanStacked() {
            for (int i = 0; i < MAX_STEPS && stack != null && stacked > 0 && stacked <= stack.length; i++) {
                stacked--;
                int cell = stack[stacked];
                int head = at(cell, HEAD);
                int cellKind = head & KIND_MASK;
                int fields = cellKind < REFERENCES.length ? REFERENCES[cellKind] : 0;
                // The next one of a row is taken from the stack behind the others: so a long row needs little of it.
                if ((fields & 8) != 0) {
                    shade(head >>> NOTE_SHIFT);
                }
                for (int j = 0; j < 3; j++) {
                    int field = j == 0 ? 2 : j == 1 ? 1 : 3;
                    if ((fields & 1 << field - 1) != 0) {
                        shade(at(cell, field));
                    }
                }
            }
        }

        /** Scans the cells for which there was no place on the stack. */
        private void scanGray() {
            for (int i = 0; i < MAX_CELLS && isStackShort; i++) {
                isStackShort = false;
                for (int cell = 1; cell < chunkCount * CHUNK_CELLS; cell++) {
                    if ((at(cell, HEAD) & GRAY) != 0 && stack != null && stack.length > 0) {
                        put(cell, HEAD, at(cell, HEAD) & ~GRAY);
                        stack[0] = cell;
                        stacked = 1;
                        scanStacked();
                    }
                }
            }
        }

        /** Marks what was found for cells that are marked. */
        private void scanKnown() {
            for (int i = 0; i < 2 * memo.words.length; i += ENTRY) {
                if ((at(memo.get(i), HEAD) & MARKED) != 0) {
                    shade(memo.get(i + 2));
                }
            }
        }

        private void forgetUnmarked() {
            for (int i = 0; i < 2 * shared.words.length; i++) {
                if (isUnmarked(shared.get(i))) {
                    shared.put(i, 0);
                }
            }
            for (int i = 0; i < 2 * memo.words.length; i += ENTRY) {
                if (isUnmarked(memo.get(i)) || isUnmarked(memo.get(i + 2))) {
                    memo.put(i, 0);
                    memo.put(i + 1, 0);
                }
            }
        }

        private boolean isUnmarked(int cell) {
            return (at(cell, HEAD) & (MARKED | KEPT)) == 0;
        }

        private void sweep() {
            live = 0;
            free = 0;
            freeCells = 0;
            for (int cell = chunkCount * CHUNK_CELLS - 1; cell > 0; cell--) {
                int head = at(cell, HEAD);
                if ((head & (MARKED | KEPT)) != 0) {
                    put(cell, HEAD, head & ~MARKED);
                    live++;
                } else {
                    put(cell, HEAD, FREE);
                    put(cell, ITEM, free);
                    free = cell;
                    freeCells++;
                }
            }
        }
    }

    /**
     * The laid data, what data are to one another, the global variables and macros, and the code of programs.
     *
     * <p>Of a program only its datum is kept, and what symbols meant when it was begun: its code, and the data that macros
     * made in it, are an image, which is made anew when it is wanted and was given up for others. A place in an image is
     * an offset; slots, each list of them with a 0 behind it, and nodes are what code is made of; a pair is two numbers,
     * each of them twice a cell, or twice the offset of another pair and 1. Program 0 is one that is only written.
     */
    private static final class Store {
        private static final int MAX_PROGRAMS = 1000;
        private static final int MAX_PAGES = 24000;
        private static final int MIN_PAGES = 2400;
        private static final int PAGE_NUMBERS = 2 * PAGE_WORDS;
        private static final int PAGE_BITS = 9;
        private static final int PAGE_MASK = 511;
        private static final int MEANING_SHIFT = 6;
        private static final int FEW = 8;
        private static final int FEW_PAGES = 64;

        private final Heap heap;
        private final int[] cells;
        private final int[] firsts;
        private final int[] rests;
        int count;
        private final int[] meanings;
        private final Row contents; // values of global variables, literals and rules of macros
        // What symbols mean that may be a keyword or macro: the newest one of a chain; and the rules in the newest program.
        private final Row newest;
        private int programs;
        private final Row programData;
        private final Row programMeanings;
        private final Row programSlots;
        private Row[] tables; // for each program the pages of its image, as many as are used
        private Row[] pages;
        private int pageCount;
        private final Row freePages;
        private int open; // the program whose image is made
        private int end;
        private int mostPages; // that are held if there is no need of more

        Store(Heap heap) {
            this.heap = heap;
            newest = heap.newRoots(2, 2);
            programData = new Row(16, MAX_PROGRAMS);
            programMeanings = heap.newRoots(16, MAX_PROGRAMS);
            programSlots = new Row(16, MAX_PROGRAMS);
            tables = new Row[FEW];
            pages = new Row[FEW];
            freePages = new Row(16, MAX_PAGES);
            freePages.used = 0;
            mostPages = FEW_PAGES;
            cells = new int[MAX_DATA];
            firsts = new int[MAX_DATA];
            rests = new int[MAX_DATA];
            meanings = new int[SYMBOLS];
            contents = heap.newRoots(SYMBOLS, SYMBOLS);
            for (int symbol = 0; symbol < SYMBOLS; symbol++) {
                heap.keep(heap.make(SYMBOL, 0, symbol, 0, 0));
            }
            heap.keep(heap.make(TRUTH, 0, 0, 0, 0));
            heap.keep(heap.make(TRUTH, 0, 1, 0, 0));
            heap.keep(heap.make(EMPTY, 0, 0, 0, 0));
            heap.keep(heap.make(NOTHING, 0, 0, 0, 0));
            for (int symbol = FIRST_PRIMITIVE; symbol <= LAST_PRIMITIVE; symbol++) {
                heap.keep(heap.make(PRIMITIVE, 0, symbol, 0, 0));
            }
            for (int symbol = FIRST_PRIMITIVE; symbol <= LAST_PRIMITIVE; symbol++) {
                define(symbol, VARIABLE, PRIMITIVE_CELLS + symbol);
            }
            for (int symbol = QUOTE_SYMBOL; symbol <= SYNTAX_SYMBOL; symbol++) {
                meanings[symbol] = KEYWORD;
            }
        }

        boolean has(int datum) {
            return datum >= 0 && datum < count;
        }

        int cellOf(int datum) {
            return has(datum) && datum < cells.length ? cells[datum] : 0;
        }

        /** Lets there be room for the cells of a datum. */
        void makeRoom() {
            if (heap.freeCells < CHUNK_CELLS) {
                heap.makeRoom(CHUNK_CELLS, 0);
            }
        }

        /** The number of a new number; -1 if there is none left. */
        int layNumber(long numerator, long denominator) {
            return lay(fraction(heap, numerator, denominator));
        }

        /** Gives a cell that is no pair the next number; -1 if there is none left. */
        int lay(int cell) {
            return layParts(cell, -1, -1);
        }

        /** The number of a new pair; -1 if it would be too many, too deep or too large. */
        int layPair(int first, int rest) {
            int cell = count < MAX_DATA ? pairOf(cellOf(first), cellOf(rest), MAX_LAID_DEPTH) : 0;
            return layParts(cell, first, rest);
        }

        private int layParts(int cell, int first, int rest) {
            if (cell == 0 || count < 0 || count >= MAX_DATA) {
                return -1;
            }
            heap.keep(cell);
            heap.calls++;
            cells[count] = cell;
            firsts[count] = first;
            rests[count] = rest;
            count++;
            return count - 1;
        }

        int partOf(int datum, boolean isFirst) {
            if (!has(datum) || datum >= MAX_DATA) {
                return -1;
            }
            return isFirst ? firsts[datum] : rests[datum];
        }

        long amountOf(int datum) {
            return heap.at(cellOf(datum), AMOUNT);
        }

        int firstFieldOf(int cell) {
            return heap.at(cell, AMOUNT);
        }

        double quotientOf(int datum) {
            int denominator = heap.at(cellOf(datum), DENOMINATOR);
            return denominator == 0 ? 0.0 : (double) heap.at(cellOf(datum), AMOUNT) / (double) denominator;
        }

        char letterOf(int cell) {
            switch (heap.kindOf(cell)) {
                case NUMBER:
                    return 'n';
                case SYMBOL:
                case RENAMED:
                    return 's';
                case TRUTH:
                    return 't';
                case EMPTY:
                    return 'e';
                case PAIR:
                case VIEW:
                case QUOTED:
                    return 'p';
                case CLOSURE:
                    return 'c';
                case PRIMITIVE:
                    return 'f';
                case CONTINUATION:
                    return 'k';
                default:
                    return 'u';
            }
        }

        boolean areDataSound() {
            for (int datum = 0; datum < count && datum < MAX_DATA; datum++) {
                int cell = cells[datum];
                int cellKind = heap.kindOf(cell);
                if (cellKind == NUMBER && !isInLowestTerms(heap.at(cell, AMOUNT), heap.at(cell, DENOMINATOR))) {
                    return false;
                }
                if (cellKind == PAIR && !arePartsLower(datum)) {
                    return false;
                }
            }
            return true;
        }

        private boolean arePartsLower(int datum) {
            int first = partOf(datum, true);
            int rest = partOf(datum, false);
            return first >= 0 && first < datum && rest >= 0 && rest < datum;
        }

        private static boolean isInLowestTerms(int numerator, int denominator) {
            return denominator >= 1
                    && denominator <= MAX_AMOUNT
                    && numerator >= -MAX_AMOUNT
                    && numerator <= MAX_AMOUNT
                    && commonDivisor(numerator, denominator) == 1;
        }

        /** The greatest common divisor of two numbers that are not both 0. */
        private static long commonDivisor(long one, long other) {
            long a = one < 0 ? -one : one;
            long b = other < 0 ? -other : other;
            for (int i = 0; i < 200 && b != 0; i++) {
                long remainder = a % b;
                a = b;
                b = remainder;
            }
            return a == 0 ? 1 : a;
        }

        /** Whether there is such a number, in lowest terms, and it is in range. */
        static boolean fits(long numerator, long denominator) {
            if (denominator == 0) {
                return false;
            }
            long divisor = commonDivisor(numerator, denominator);
            long top = numerator / divisor;
            long bottom = denominator / divisor;
            return top >= -MAX_AMOUNT && top <= MAX_AMOUNT && bottom >= -MAX_AMOUNT && bottom <= MAX_AMOUNT;
        }

        /** A new number in lowest terms; 0 if there is none or it is out of range. */
        static int fraction(Heap heap, long numerator, long denominator) {
            if (denominator == 0) {
                return 0;
            }
            long divisor = commonDivisor(numerator, denominator);
            long signed = denominator < 0 ? -divisor : divisor;
            long top = numerator / signed;
            long bottom = denominator / signed;
            if (top < -MAX_AMOUNT || top > MAX_AMOUNT || bottom > MAX_AMOUNT) {
                return 0;
            }
            return heap.make(NUMBER, 0, (int) top, (int) bottom, 0);
        }

        int measureOf(int cell) {
            switch (heap.kindOf(cell)) {
                case PAIR:
                    return heap.at(cell, MEASURE);
                case RENAMED:
                    return MEASURE_OF_ONE | RENAMED_INSIDE;
                default:
                    return MEASURE_OF_ONE;
            }
        }

        /** A new pair with its measure; 0 if it would be too deep or too large. */
        int pairOf(int first, int rest, int deepest) {
            int one = measureOf(first);
            int other = measureOf(rest);
            int size = (one & SIZE_MASK) + (other & SIZE_MASK) + 1;
            int depth = Math.max((one >> DEPTH_SHIFT & DEPTH_MASK) + 1, other >> DEPTH_SHIFT & DEPTH_MASK);
            if (size > MAX_SIZE || depth > deepest) {
                return 0;
            }
            return heap.make(PAIR, 0, first, rest, (one | other) & RENAMED_INSIDE | depth << DEPTH_SHIFT | size);
        }

        boolean isName(int cell) {
            int cellKind = heap.kindOf(cell);
            return cellKind == SYMBOL || cellKind == RENAMED;
        }

        /** The symbol of a name; -1 if it is none. */
        int symbolOf(int cell) {
            int name = cell;
            for (int i = 0; i < MAX_CELLS && heap.kindOf(name) == RENAMED; i++) {
                name = heap.at(name, UNDER);
            }
            return heap.kindOf(name) == SYMBOL ? heap.at(name, AMOUNT) : -1;
        }

        /** Whether two names are the same: one symbol, or the same mark on the same name. */
        boolean areSameNames(int name, int other) {
            int a = name;
            int b = other;
            for (int i = 0;
                    i < MAX_CELLS
                            && a != b
                            && heap.kindOf(a) == RENAMED
                            && heap.kindOf(b) == RENAMED
                            && heap.at(a, MARK) == heap.at(b, MARK);
                    i++) {
                a = heap.at(a, UNDER);
                b = heap.at(b, UNDER);
            }
            return a == b;
        }

        /** The first cell of a row whose item is the same name as this one; 0 if there is none. */
        int find(int name, int row) {
            int cell = row;
            for (int i = 0; i < MAX_CELLS && cell != 0; i++) {
                if (areSameNames(heap.at(cell, ITEM), name)) {
                    return cell;
                }
                cell = heap.at(cell, NEXT);
            }
            return 0;
        }

        /** The number of parts of a list; -1 if it does not end with the empty list. */
        int lengthOf(int list) {
            int length = 0;
            int cell = list;
            for (int i = 0; i < MAX_CELLS && heap.kindOf(cell) == PAIR; i++) {
                cell = heap.at(cell, REST);
                length++;
            }
            return heap.kindOf(cell) == EMPTY ? length : -1;
        }

        boolean areShapedAlike(int cell, int other) {
            return haveOneShape(cell, other, 0);
        }

        private boolean haveOneShape(int cell, int other, int level) {
            int a = cell;
            int b = other;
            for (int i = 0; i < MAX_SIZE && heap.kindOf(a) == PAIR && heap.kindOf(b) == PAIR; i++) {
                boolean areFirstsAlike =
                        level < MAX_LEVEL && haveOneShape(heap.at(a, FIRST), heap.at(b, FIRST), level + 1);
                if (!areFirstsAlike) {
                    return false;
                }
                a = heap.at(a, REST);
                b = heap.at(b, REST);
            }
            return heap.areSame(a, b);
        }

        int meaningOf(int symbol) {
            return symbol >= 0 && symbol < meanings.length ? meanings[symbol] : UNKNOWN;
        }

        /** The value of a global variable; 0 if there is none. */
        int globalValue(int symbol) {
            return meaningOf(symbol) == VARIABLE ? contents.get(symbol) : 0;
        }

        void define(int symbol, int newMeaning, int content) {
            if (symbol < 0 || symbol >= meanings.length) {
                return;
            }
            if (newMeaning == MACRO || meanings[symbol] == MACRO || meanings[symbol] == KEYWORD) {
                int rules = newMeaning == MACRO ? content : 0;
                newest.put(0, heap.make(MEANING, newMeaning << MEANING_SHIFT | symbol, rules, newest.get(0), 0));
            }
            meanings[symbol] = newMeaning;
            contents.put(symbol, content);
        }

        // ---- programs

        /** The number of a new program; 0 if there is none left. */
        int newProgram(int datum) {
            if (programs >= MAX_PROGRAMS - 1) {
                return 0;
            }
            programs++;
            heap.calls++;
            return begunProgram(programs, datum);
        }

        /** Lets a number be that of a program that begins now. */
        int begunProgram(int program, int datum) {
            programData.put(program, datum);
            programMeanings.put(program, newest.get(0));
            programMeanings.used = Math.max(programMeanings.used, program + 1);
            return program;
        }

        int datumOf(int program) {
            return programData.get(program);
        }

        int slotOf(int program) {
            return programSlots.get(program);
        }

        /** The literals and rules that the newest program defines. */
        int newRules() {
            return newest.get(1);
        }

        void setNewRules(int program, int rules) {
            if (program == programs) {
                newest.put(1, rules);
            }
        }

        /** Lets rows be what symbols meant when a program began, and the rules of macros then. */
        void recallMeanings(int program, Row meaningsThen, Row rulesThen) {
            for (int symbol = 0; symbol < SYMBOLS; symbol++) {
                meaningsThen.put(symbol, symbol <= SYNTAX_SYMBOL ? KEYWORD : UNKNOWN);
                rulesThen.put(symbol, 0);
            }
            long seen = 0;
            int version = programMeanings.get(program);
            for (int i = 0; i < MAX_STEPS && version != 0; i++) {
                int symbol = heap.noteOf(version) & (1 << MEANING_SHIFT) - 1;
                if ((seen >> symbol & 1) == 0) {
                    meaningsThen.put(symbol, heap.noteOf(version) >> MEANING_SHIFT);
                    rulesThen.put(symbol, heap.at(version, ITEM));
                }
                seen |= 1L << symbol;
                version = heap.at(version, NEXT);
            }
        }

        boolean isLoaded(int program) {
            return program >= 0 && program < tables.length && tables[program] != null && tables[program].used > 0;
        }

        /** A number of the image of a program. */
        int word(int program, int offset) {
            int place = offset >> PAGE_BITS;
            if (program < 0 || program >= tables.length || tables[program] == null || place >= tables[program].used) {
                return 0;
            }
            long[] table = tables[program].words;
            if (place < 0 || place >> 1 >= table.length) {
                return 0;
            }
            int page = (int) (table[place >> 1] >>> ((place & 1) << 5));
            int at = (offset & PAGE_MASK) >> 1;
            if (page < 0 || page >= pages.length || pages[page] == null || at >= pages[page].words.length) {
                return 0;
            }
            return (int) (pages[page].words[at] >>> ((offset & 1) << 5));
        }

        /** Begins to make the image of a program. If there was one that was given up, more of them are to be held. */
        void openImage(int program) {
            boolean isAgain = program != 0 && programSlots.get(program) != 0;
            mostPages = isAgain ? Math.min(MAX_PAGES, 2 * mostPages) : mostPages;
            if (program >= tables.length && program < MAX_PROGRAMS) {
                Row[] more = new Row[Math.min(MAX_PROGRAMS, 4 * program)];
                for (int i = 0; i < tables.length; i++) {
                    more[i] = tables[i];
                }
                tables = more;
            }
            open = program;
            end = 1;
            if (program >= 0 && program < tables.length && tables[program] == null) {
                tables[program] = new Row(FEW, MAX_PAGES);
                tables[program].used = 0;
            }
            dropImage(program);
            programSlots.put(program, 0);
        }

        /** Ends it, with the slot of the program; 0 if it is wrong. */
        void closeImage(int slot) {
            programSlots.put(open, slot);
            if (slot == 0) {
                dropImage(open);
            } else if (end == 1) {
                emit(0);
            }
        }

        int nextOffset() {
            return end;
        }

        /** Puts a number behind the image that is made; where it is. */
        int emit(int number) {
            if (end >> PAGE_BITS >= countOfPages(open)) {
                addPage();
            }
            patch(end, number);
            end++;
            return end - 1;
        }

        /** Puts a number in place of another one of the image that is made. */
        void patch(int offset, int number) {
            int place = offset >> PAGE_BITS;
            int page = place >= 0 && place < countOfPages(open) ? tables[open].get(place) : -1;
            if (page >= 0 && page < pages.length && pages[page] != null) {
                pages[page].put(offset & PAGE_MASK, number);
            }
        }

        private int countOfPages(int program) {
            boolean isThere = program >= 0 && program < tables.length && tables[program] != null;
            return isThere ? tables[program].used : 0;
        }

        /** Puts a free page behind the image that is made. */
        private void addPage() {
            if (freePages.used > 0 && open >= 0 && open < tables.length && tables[open] != null) {
                Row table = tables[open];
                freePages.used--;
                table.put(table.used, freePages.get(freePages.used));
                table.used++;
            }
        }

        /** Lets there be some free pages, if that can be; other images may be given up for them, the largest one first. */
        boolean hasPages(int needed) {
            int allowed = Math.min(MAX_PAGES, Math.max(MIN_PAGES, heap.mostPages()));
            int most = Math.min(allowed, mostPages + countOfPages(open));
            for (int i = 0; i < MAX_PROGRAMS && freePages.used < needed && pageCount + needed > most; i++) {
                int largest = 0;
                for (int j = 1; j < tables.length; j++) {
                    largest = j != open && countOfPages(j) > countOfPages(largest) || largest == open ? j : largest;
                }
                if (largest == open || countOfPages(largest) == 0) {
                    break;
                }
                dropImage(largest);
            }
            for (int i = 0; i < needed && freePages.used < needed && pageCount < allowed; i++) {
                makePage();
            }
            return freePages.used >= needed;
        }

        private void makePage() {
            if (pageCount >= pages.length) {
                Row[] more = new Row[Math.min(MAX_PAGES, 4 * pageCount)];
                for (int i = 0; i < pages.length; i++) {
                    more[i] = pages[i];
                }
                pages = more;
            }
            if (pageCount < pages.length) {
                pages[pageCount] = new Row(PAGE_NUMBERS, 0);
                freePages.add(pageCount);
                pageCount++;
                heap.pages = pageCount;
            }
        }

        private void dropImage(int program) {
            int count = countOfPages(program);
            for (int i = 0; i < count; i++) {
                freePages.add(tables[program].get(i));
            }
            if (count > 0) {
                tables[program].used = 0;
            }
        }
    }

    /** The text, and data and expanded programs written into it; what would be too long leaves it as it was. */
    private static final class Writer {
        // What is still to be written: a datum, what follows behind a part of a list, a form, the forms from a place in
        // some parts on, ")", and nothing, but behind the body of a lambda its variables are no longer bound.
        private static final int DATUM = 0;
        private static final int TAIL = 1;
        private static final int FORM = 2;
        private static final int FORMS = 3;
        private static final int CLOSE = 4;
        private static final int UNBIND = 5;
        private static final int MAX_JOBS = 2048;
        private static final int MOST_MADE = 64;

        private final Heap heap;
        private final Values values;
        private final Body body;
        private final Store store;
        private final char[] text;
        int length;
        private final char[] draft;
        private int drafted;
        private final Row jobs;
        private final Row subjects;
        private int waiting;
        private final Row binders; // the number of the first variable of each lambda around
        private int bindersAround;
        private int variables;

        Writer(Heap heap, Store store, Values values, Body body) {
            this.heap = heap;
            this.store = store;
            this.values = values;
            this.body = body;
            text = new char[MAX_TEXT];
            draft = new char[MAX_TEXT];
            jobs = new Row(MAX_JOBS, MAX_JOBS);
            subjects = heap.newRoots(MAX_JOBS, MAX_JOBS);
            binders = new Row(MAX_LEVEL, MAX_LEVEL);
        }

        char signAt(int index) {
            return index >= 0 && index < length && index < text.length ? text[index] : ' ';
        }

        int append(char sign) {
            if (length >= 0 && length < text.length) {
                text[length] = sign;
                length++;
            }
            return length;
        }

        int forget() {
            int before = length;
            length = 0;
            return before;
        }

        /** Begins to write a datum, or the slot of program 0. */
        void start(boolean isProgram, int subject) {
            drafted = 0;
            waiting = 0;
            bindersAround = 0;
            variables = 0;
            later(isProgram ? FORM : DATUM, subject);
        }

        /** Goes on with writing; the number of a program that must be expanded for it first, or 0 at the end. */
        int goOn() {
            boolean isRight = true;
            for (int i = 0; i < MAX_STEPS && isRight && waiting > 0 && drafted <= MAX_TEXT; i++) {
                subjects.used = waiting;
                if (heap.freeCells < MOST_MADE) {
                    heap.makeRoom(MOST_MADE, 0);
                }
                if (values.wanted < 0) {
                    return -values.wanted;
                }
                if (values.wanted > 0 || body.isFinding()) {
                    isRight = body.find(0);
                    continue;
                }
                waiting--;
                int job = waiting;
                int next = subjects.get(waiting);
                switch (jobs.get(waiting)) {
                    case DATUM:
                        startDatum(next);
                        break;
                    case TAIL:
                        putTail(next);
                        break;
                    case FORM:
                        startForm(next);
                        break;
                    case FORMS:
                        putForms(next);
                        break;
                    case CLOSE:
                        put(')');
                        break;
                    default:
                        bindersAround--;
                }
                // A part that is not there yet is put when it is.
                waiting = values.wanted == 0 ? waiting : job + 1;
            }
            drafted = isRight ? drafted : MAX_TEXT + 1;
            return 0;
        }

        /** Goes on behind the expansion of a program, which may have found no room. */
        void takeProgram(boolean isThere) {
            values.wanted = 0;
            if (!isThere) {
                body.dropTasks();
                waiting = 0;
                drafted = MAX_TEXT + 1;
            }
        }

        /** Ends with writing: the length of the text; -1 if it would be too long. */
        int finish() {
            subjects.used = 0;
            if (drafted > MAX_TEXT) {
                return -1;
            }
            System.arraycopy(draft, 0, text, 0, drafted);
            length = drafted;
            return length;
        }

        private void later(int job, int subject) {
            jobs.put(waiting, job);
            subjects.put(waiting, subject);
            waiting++;
        }

        private void put(char sign) {
            if (drafted >= 0 && drafted < draft.length) {
                draft[drafted] = sign;
            }
            drafted++;
        }

        private void putWord(String word) {
            for (int i = 0; i < word.length(); i++) {
                put(word.charAt(i));
            }
        }

        private void putNumber(int number) {
            long rest = number;
            if (rest < 0) {
                put('-');
                rest = -rest;
            }
            boolean isBegun = false;
            for (long unit = 1000000000L; unit >= 1; unit /= 10) {
                long digit = rest / unit % 10;
                isBegun = isBegun || digit != 0 || unit == 1;
                if (isBegun) {
                    put((char) ('0' + digit));
                }
            }
        }

        private void putNamed(char sign, int number) {
            put(sign);
            putNumber(number);
        }

        private void startDatum(int cell) {
            switch (heap.kindOf(cell)) {
                case NUMBER:
                    putNumber(heap.at(cell, AMOUNT));
                    if (heap.at(cell, DENOMINATOR) != 1) {
                        put('/');
                        putNumber(heap.at(cell, DENOMINATOR));
                    }
                    break;
                case SYMBOL:
                    putNamed('s', heap.at(cell, AMOUNT));
                    break;
                case TRUTH:
                    putWord(cell == TRUE_CELL ? "#t" : "#f");
                    break;
                case EMPTY:
                    putWord("()");
                    break;
                case PAIR:
                case VIEW:
                case QUOTED:
                    putPart('(', cell);
                    break;
                case CLOSURE:
                    putWord("#c");
                    break;
                case PRIMITIVE:
                    putWord("#p");
                    putNumber(heap.at(cell, AMOUNT));
                    break;
                case CONTINUATION:
                    putWord("#k");
                    break;
                default:
                    putWord("#u");
            }
        }

        /** Puts the first part of a pair behind a sign; if an episode is wanted for it, nothing is done. */
        private void putPart(char sign, int pair) {
            int part = values.firstOf(pair);
            int rest = part == 0 ? 0 : values.restOf(pair);
            if (rest != 0) {
                put(sign);
                later(TAIL, rest);
                later(DATUM, part);
            }
        }

        private void putTail(int cell) {
            int cellKind = heap.kindOf(cell);
            if (cellKind == EMPTY) {
                put(')');
            } else if (values.isPair(cell)) {
                putPart(' ', cell);
            } else {
                putWord(" . ");
                later(CLOSE, 0);
                later(DATUM, cell);
            }
        }

        private void putForms(int offset) {
            int slot = store.word(0, offset);
            if (slot == 0) {
                put(')');
            } else {
                put(' ');
                later(FORMS, offset + 1);
                later(FORM, slot);
            }
        }

        private void startForm(int slot) {
            int content = slot >>> SLOT_SHIFT;
            switch (slot & TAG_MASK) {
                case CALL:
                    put('(');
                    later(FORMS, content + 1);
                    later(FORM, store.word(0, content));
                    break;
                case BRANCH:
                    putWord("(if");
                    later(FORMS, content);
                    break;
                case SEQUENCE:
                    putWord("(begin");
                    later(FORMS, content);
                    break;
                case CONSTANT:
                    later(DATUM, content);
                    break;
                case QUOTATION:
                    startQuote(content);
                    break;
                case LOCAL:
                    putVariable(slot);
                    break;
                case GLOBAL:
                    putNamed('s', content);
                    break;
                default:
                    startOther(content);
            }
        }

        private void startQuote(int datum) {
            putWord("(quote ");
            later(CLOSE, 0);
            later(DATUM, datum);
        }

        private void putVariable(int slot) {
            int first = binders.get(bindersAround - 1 - (slot >>> DEPTH_OUT_SHIFT));
            putNamed('x', first + (slot >> SLOT_SHIFT & PLACE_MASK));
        }

        private void startOther(int node) {
            int info = store.word(0, node + 1);
            switch (store.word(0, node)) {
                case LAMBDA:
                    putWord("(lambda ");
                    startLambda(info >> 1, (info & 1) != 0);
                    later(FORMS, node + BODY_PLACE);
                    return;
                case QUOTE:
                    startQuote(heap.make(QUOTED, 0, info, 0, 0));
                    return;
                case SET_LOCAL:
                    putWord("(set ");
                    putVariable(info);
                    break;
                case SET_GLOBAL:
                    putWord("(set ");
                    putNamed('s', info);
                    break;
                case DEFINITION:
                    putWord("(define ");
                    putNamed('s', info);
                    break;
                default:
                    putWord("(define-syntax ");
                    putNamed('s', info);
                    put(')');
                    return;
            }
            put(' ');
            later(CLOSE, 0);
            later(FORM, store.word(0, node + 2));
        }

        /** Writes the parameters of a lambda, which are bound up to the end of its body. */
        private void startLambda(int parameters, boolean hasRest) {
            int first = variables;
            int bound = parameters + (hasRest ? 1 : 0);
            variables += bound;
            if (bound > 0) {
                binders.put(bindersAround, first);
                bindersAround++;
                later(UNBIND, 0);
            }
            if (parameters == 0 && hasRest) {
                putNamed('x', first);
                return;
            }
            put('(');
            for (int i = 0; i < parameters && drafted <= MAX_TEXT; i++) {
                if (i > 0) {
                    put(' ');
                }
                putNamed('x', first + i);
            }
            if (hasRest) {
                putWord(" . ");
                putNamed('x', first + parameters);
            }
            put(')');
        }
    }

    /** Takes the text apart, looks whether it is one datum, and lays it. */
    private static final class Reader {
        private static final int MAX_DIGITS = 18;

        // The pieces: '(', ')', '.', 'n' a number, 's' a symbol, 't' a truth.
        private final char[] pieces;
        private final long[] tops;
        private final long[] bottoms;
        private int pieceCount;
        int needed;
        // The lists that are open: how far each one is, the depth of its parts, where its parts begin.
        private final Row stages;
        private final Row depths;
        private final Row parts;
        private int open;

        Reader() {
            pieces = new char[MAX_TEXT];
            tops = new long[MAX_TEXT];
            bottoms = new long[MAX_TEXT];
            stages = new Row(MAX_TEXT + 1, MAX_TEXT + 1);
            depths = new Row(MAX_TEXT + 1, MAX_TEXT + 1);
            parts = new Row(MAX_TEXT + 1, MAX_TEXT + 1);
        }

        /** Whether the text is one datum that is not too deep; then needed is how many data it would lay. */
        boolean takes(Writer text) {
            return isSplit(text) && isOneDatum();
        }

        private boolean isSplit(Writer text) {
            pieceCount = 0;
            int index = 0;
            for (int i = 0; i < MAX_TEXT && index < text.length; i++) {
                char sign = text.signAt(index);
                int end = index + 1;
                if (sign == '(' || sign == ')') {
                    addPiece(sign, 0, 1);
                } else if (sign != ' ') {
                    end = endOfPiece(text, index);
                    if (!isPiece(text, index, end)) {
                        return false;
                    }
                }
                index = end;
            }
            return true;
        }

        private static int endOfPiece(Writer text, int start) {
            for (int i = start; i < text.length; i++) {
                char sign = text.signAt(i);
                if (sign == ' ' || sign == '(' || sign == ')') {
                    return i;
                }
            }
            return text.length;
        }

        private void addPiece(char piece, long top, long bottom) {
            if (pieceCount >= 0 && pieceCount < MAX_TEXT) {
                pieces[pieceCount] = piece;
                tops[pieceCount] = top;
                bottoms[pieceCount] = bottom;
                pieceCount++;
            }
        }

        private boolean isPiece(Writer text, int start, int end) {
            char sign = text.signAt(start);
            if (sign == '.') {
                addPiece('.', 0, 1);
                return end == start + 1;
            }
            if (sign == '#') {
                char letter = end == start + 2 ? text.signAt(start + 1) : ' ';
                addPiece('t', letter == 't' ? 1 : 0, 1);
                return letter == 't' || letter == 'f';
            }
            if (sign == 's') {
                long symbol = digits(text, start + 1, end);
                addPiece('s', symbol, 1);
                return symbol >= 0 && symbol < SYMBOLS;
            }
            return isNumber(text, start, end);
        }

        private boolean isNumber(Writer text, int start, int end) {
            boolean isNegative = text.signAt(start) == '-';
            int slash = end;
            for (int i = end - 1; i >= start; i--) {
                if (text.signAt(i) == '/') {
                    slash = i;
                }
            }
            long top = digits(text, isNegative ? start + 1 : start, slash);
            long bottom = slash == end ? 1 : digits(text, slash + 1, end);
            if (top < 0 || bottom < 0) {
                return false;
            }
            addPiece('n', isNegative ? -top : top, bottom);
            return Store.fits(top, bottom);
        }

        /** The number that 1 to 18 digits are; -1 if they are none. */
        private static long digits(Writer text, int start, int end) {
            if (end <= start || end - start > MAX_DIGITS) {
                return -1;
            }
            long number = 0;
            for (int i = start; i < end; i++) {
                char sign = text.signAt(i);
                if (sign < '0' || sign > '9') {
                    return -1;
                }
                number = number * 10 + (sign - '0');
            }
            return number;
        }

        // The stages of an open list: 0 without parts, 1 with parts, 2 behind a point, 3 behind what ends it.
        // At the bottom lies the whole text: it is at stage 2 as long as its one datum is missing.
        private boolean isOneDatum() {
            open = 0;
            needed = 0;
            stages.put(0, 2);
            for (int i = 0; i < pieceCount && i < MAX_TEXT; i++) {
                boolean isRight;
                switch (pieces[i]) {
                    case '(':
                        open++;
                        stages.put(open, 0);
                        depths.put(open, 1);
                        isRight = true;
                        break;
                    case ')':
                        isRight = closes();
                        break;
                    case '.':
                        isRight = stages.get(open) == 1;
                        stages.put(open, 2);
                        break;
                    default:
                        needed++;
                        isRight = takesPart(1);
                }
                if (!isRight) {
                    return false;
                }
            }
            return open == 0 && stages.get(0) == 3;
        }

        private boolean takesPart(int depth) {
            int stage = stages.get(open);
            boolean isEnd = stage == 2;
            stages.put(open, isEnd ? 3 : 1);
            depths.put(open, Math.max(depths.get(open), isEnd ? depth : depth + 1));
            if (!isEnd) {
                needed++;
            }
            return stage != 3 && depth <= MAX_LAID_DEPTH;
        }

        private boolean closes() {
            int stage = stages.get(open);
            if (open == 0 || stage == 2) {
                return false;
            }
            if (stage != 3) {
                needed++;
            }
            int depth = depths.get(open);
            open--;
            return takesPart(depth);
        }

        /** Lays the datum that was looked at; its number, or -1 if there is no room. */
        int layAll(Store store) {
            open = 0;
            int top = 0;
            for (int i = 0; i < pieceCount && i < MAX_TEXT; i++) {
                switch (pieces[i]) {
                    case '(':
                        open++;
                        stages.put(open, 0);
                        depths.put(open, top);
                        break;
                    case ')':
                        int start = depths.get(open);
                        parts.put(start, layList(store, start, top));
                        top = start + 1;
                        open--;
                        break;
                    case '.':
                        stages.put(open, 2);
                        break;
                    default:
                        parts.put(top, layPiece(store, i));
                        top++;
                }
            }
            return parts.get(0);
        }

        private int layList(Store store, int start, int top) {
            boolean isDotted = stages.get(open) == 2;
            int last = isDotted ? top - 1 : top;
            int list = isDotted ? parts.get(last) : store.lay(EMPTY_CELL);
            for (int i = last - 1; i >= start; i--) {
                list = store.layPair(parts.get(i), list);
            }
            return list;
        }

        private int layPiece(Store store, int index) {
            if (index < 0 || index >= MAX_TEXT) {
                return -1;
            }
            long top = tops[index];
            switch (pieces[index]) {
                case 's':
                    return store.lay(FIRST_SYMBOL_CELL + (int) top);
                case 't':
                    return store.lay(top == 1 ? TRUE_CELL : FALSE_CELL);
                default:
                    return store.layNumber(top, bottoms[index]);
            }
        }
    }

    /**
     * Macros: whether their patterns are right, what they match, and what templates come to. A variable that is a row is
     * bound to the whole list, with the pattern ahead of the ellipsis; so it takes no cells for what is in the list, until
     * the parts of the list are matched with that pattern, one behind the other.
     */
    private static final class Macros {
        private final Heap heap;
        private final Store store;
        private long literals;
        private int scope;
        private int names;
        private int bindings; // of the variables of patterns
        private int mark;
        private int size;
        private int rows; // patterns with what is left of their lists
        private int rowLength;
        private boolean areRowsEven;

        Macros(Heap heap, Store store) {
            this.heap = heap;
            this.store = store;
        }

        /** Whether this is a list of literals and of rules with right patterns. */
        boolean areRules(int definition) {
            if (heap.kindOf(definition) != PAIR || !areLiterals(heap.at(definition, FIRST))) {
                return false;
            }
            int rules = heap.at(definition, REST);
            for (int i = 0; i < MAX_SIZE && heap.kindOf(rules) == PAIR; i++) {
                int rule = heap.at(rules, FIRST);
                int pattern = heap.at(rule, FIRST);
                names = 0;
                if (store.lengthOf(rule) != 2
                        || heap.kindOf(pattern) != PAIR
                        || !isRightPattern(heap.at(pattern, REST), 0)) {
                    return false;
                }
                rules = heap.at(rules, REST);
            }
            return true;
        }

        /** Whether this is a list of names; they become the literals. */
        private boolean areLiterals(int list) {
            literals = 0;
            int cell = list;
            for (int i = 0; i < MAX_SIZE && heap.kindOf(cell) == PAIR; i++) {
                int symbol = store.symbolOf(heap.at(cell, FIRST));
                if (symbol < 0) {
                    return false;
                }
                literals |= 1L << symbol;
                cell = heap.at(cell, REST);
            }
            return heap.kindOf(cell) == EMPTY;
        }

        private boolean isLiteral(int symbol) {
            return symbol >= 0 && (literals >> symbol & 1) != 0;
        }

        private boolean isVariable(int symbol) {
            boolean hasMeaning = symbol == BLANK_SYMBOL || symbol == ELLIPSIS_SYMBOL;
            return symbol >= 0 && !hasMeaning && (literals >> symbol & 1) == 0;
        }

        /** Whether a list begins with an ellipsis; the ellipsis of a pattern must be all of it. */
        private boolean isEllipsisAhead(int list, boolean isAll) {
            return heap.kindOf(list) == PAIR
                    && store.symbolOf(heap.at(list, FIRST)) == ELLIPSIS_SYMBOL
                    && (!isAll || heap.at(list, REST) == EMPTY_CELL);
        }

        /** Whether a pattern is right; its variables come to the names that were there. */
        private boolean isRightPattern(int pattern, int level) {
            if (level > MAX_LEVEL) {
                return false;
            }
            int cell = pattern;
            for (int i = 0; i < MAX_SIZE && heap.kindOf(cell) == PAIR; i++) {
                if (!isRightPattern(heap.at(cell, FIRST), level + 1)) {
                    return false;
                }
                cell = heap.at(cell, REST);
                if (isEllipsisAhead(cell, true)) {
                    return true;
                }
            }
            int symbol = store.symbolOf(cell);
            if (!isVariable(symbol)) {
                return symbol != ELLIPSIS_SYMBOL || isLiteral(symbol);
            }
            boolean isNew = store.find(cell, names) == 0;
            names = heap.make(LINK, 0, cell, names, 0);
            return isNew;
        }

        /** The first rule that fits a form; 0 if there is none. */
        int fittingRule(int definition, int form, int scopeOfForm) {
            if (!areLiterals(heap.at(definition, FIRST))) {
                return 0;
            }
            scope = scopeOfForm;
            int rules = heap.at(definition, REST);
            for (int i = 0; i < MAX_SIZE && heap.kindOf(rules) == PAIR; i++) {
                int rule = heap.at(rules, FIRST);
                if (isMatch(heap.at(heap.at(rule, FIRST), REST), heap.at(form, REST), 0)) {
                    return rule;
                }
                rules = heap.at(rules, REST);
            }
            return 0;
        }

        private boolean isMatch(int pattern, int form, int level) {
            if (level > MAX_LEVEL) {
                return false;
            }
            int cell = pattern;
            int part = form;
            for (int i = 0; i < MAX_SIZE && heap.kindOf(cell) == PAIR; i++) {
                int item = heap.at(cell, FIRST);
                cell = heap.at(cell, REST);
                if (isEllipsisAhead(cell, true)) {
                    boolean isRight = true;
                    for (int j = 0; j < MAX_SIZE && isRight && heap.kindOf(part) == PAIR; j++) {
                        isRight = isMatch(item, heap.at(part, FIRST), level + 1);
                        part = heap.at(part, REST);
                    }
                    return isRight && heap.kindOf(part) == EMPTY;
                }
                if (heap.kindOf(part) != PAIR || !isMatch(item, heap.at(part, FIRST), level + 1)) {
                    return false;
                }
                part = heap.at(part, REST);
            }
            return isPlainMatch(cell, part);
        }

        /** Whether a pattern that is no pair matches. */
        private boolean isPlainMatch(int pattern, int part) {
            int symbol = store.symbolOf(pattern);
            if (symbol < 0) {
                return heap.areSame(pattern, part);
            }
            if (symbol == BLANK_SYMBOL || !isLiteral(symbol)) {
                return true;
            }
            return store.symbolOf(part) == symbol && store.find(part, scope) == 0;
        }

        /** What the template of a rule that fits comes to, by a new mark; 0 if it is wrong. */
        int outcomeOf(int rule, int form) {
            mark++;
            size = 0;
            bindings = 0;
            bind(heap.at(heap.at(rule, FIRST), REST), heap.at(form, REST), 0, 0);
            return build(heap.at(heap.at(rule, REST), FIRST), 0);
        }

        /** Binds the variables of a pattern; below an ellipsis all of them to its list, with the pattern of its row. */
        private void bind(int pattern, int form, int rowPattern, int level) {
            int cell = pattern;
            int part = form;
            boolean isRow = rowPattern != 0;
            for (int i = 0; i < MAX_SIZE && heap.kindOf(cell) == PAIR && level <= MAX_LEVEL; i++) {
                int item = heap.at(cell, FIRST);
                cell = heap.at(cell, REST);
                if (isEllipsisAhead(cell, true)) {
                    bind(item, part, isRow ? rowPattern : item, level + 1);
                    return;
                }
                bind(item, isRow ? form : heap.at(part, FIRST), rowPattern, level + 1);
                part = isRow ? form : heap.at(part, REST);
            }
            if (isVariable(store.symbolOf(cell))) {
                bindings = heap.make(BINDING, rowPattern, cell, bindings, part);
            }
        }

        /** Gives back the cells of bindings or rows up to others; these others. */
        private int released(int first, int outer) {
            int cell = first;
            for (int i = 0; i < MAX_CELLS && cell != outer && cell != 0; i++) {
                int next = heap.at(cell, NEXT);
                heap.release(cell);
                cell = next;
            }
            return cell;
        }

        /** What a template comes to with the variables that are bound; 0 if it is wrong. */
        private int build(int template, int level) {
            if (level > MAX_LEVEL) {
                return 0;
            }
            int parts = 0;
            int cell = template;
            for (int i = 0; i < MAX_SIZE && heap.kindOf(cell) == PAIR; i++) {
                int part = heap.at(cell, FIRST);
                cell = heap.at(cell, REST);
                if (isEllipsisAhead(cell, false)) {
                    cell = heap.at(cell, REST);
                    parts = buildRow(part, parts, level + 1);
                } else {
                    parts = added(build(part, level + 1), parts);
                }
                if (parts < 0) {
                    return 0;
                }
            }
            int whole = leaf(cell);
            for (int i = 0; i < MAX_SIZE && parts != 0 && whole != 0; i++) {
                whole = store.pairOf(heap.at(parts, ITEM), whole, MAX_MADE_DEPTH);
                parts = heap.at(parts, NEXT);
            }
            return whole;
        }

        /** The parts with one more; -1 if it is wrong or there is too much of it. */
        private int added(int part, int parts) {
            size++;
            return part == 0 || size > MAX_SIZE ? -1 : heap.make(LINK, 0, part, parts, 0);
        }

        private int leaf(int cell) {
            int made = cell;
            if (store.isName(cell)) {
                int binding = store.find(cell, bindings);
                if (heap.noteOf(binding) != 0) {
                    return 0;
                }
                made = binding != 0 ? heap.at(binding, EXTRA) : heap.makeShared(RENAMED, 0, cell, mark, 0);
            }
            size += store.measureOf(made) & SIZE_MASK;
            return size > MAX_SIZE ? 0 : made;
        }

        /** The parts with those that a template comes to for the items of its rows; -1 if that is wrong. */
        private int buildRow(int template, int before, int level) {
            rows = 0;
            areRowsEven = true;
            addRows(template, level);
            int mine = rows;
            int count = areRowsEven ? rowLength : 0;
            int outer = bindings;
            int parts = mine == 0 || !areRowsEven ? -1 : before;
            for (int i = 0; i < count && parts >= 0; i++) {
                int row = mine;
                for (int j = 0; j < MAX_SIZE && row != 0; j++) {
                    int list = heap.at(row, EXTRA);
                    bind(heap.at(row, ITEM), heap.at(list, FIRST), 0, 0);
                    heap.put(row, EXTRA, heap.at(list, REST));
                    row = heap.at(row, NEXT);
                }
                parts = added(build(template, level), parts);
                bindings = released(bindings, outer);
            }
            released(mine, 0);
            return parts;
        }

        /** Puts the rows of the variables in a template ahead of the rows that were there. */
        private void addRows(int template, int level) {
            int cell = template;
            for (int i = 0; i < MAX_SIZE && heap.kindOf(cell) == PAIR && level <= MAX_LEVEL; i++) {
                addRows(heap.at(cell, FIRST), level + 1);
                cell = heap.at(cell, REST);
            }
            int binding = store.isName(cell) ? store.find(cell, bindings) : 0;
            int pattern = heap.noteOf(binding);
            int list = heap.at(binding, EXTRA);
            int row = pattern == 0 ? 0 : rows;
            for (int i = 0; i < MAX_SIZE && row != 0; i++) {
                if (heap.at(row, ITEM) == pattern && heap.at(row, EXTRA) == list) {
                    return;
                }
                row = heap.at(row, NEXT);
            }
            if (pattern != 0) {
                int length = store.lengthOf(list);
                areRowsEven = areRowsEven && (rows == 0 || rowLength == length);
                rowLength = length;
                rows = heap.make(BINDING, 0, pattern, rows, list);
            }
        }
    }

    /** Makes the images of programs. The forms that are around the one at hand are a stack, one level for each. */
    private static final class Expander {
        private static final int LEVELS = 104;
        private static final int WHOLE = 0;
        private static final int MOST_PAGES = 8; // that a form takes
        private static final int OPENED = -1; // in place of a slot, as long as its parts are still to be expanded

        private final Heap heap;
        private final Store store;
        private final Macros macros;
        // What symbols meant when the program began.
        private final Row meanings;
        private final Row rules;
        // For each level: the forms that are still to be expanded, the names that are bound there, what came out of a
        // macro in place of the form at hand; what the forms belong to: the tag of a slot, and a kind of node with what it
        // has ahead of its slots; and where their slots begin.
        private final Row lists;
        private final Row scopes;
        private final Row outcomes;
        private final Row kinds;
        private final Row infos;
        private final Row starts;
        private int level;
        private final Row slots;
        private int program;
        private int anew; // pairs of a datum that were made anew
        int used;
        char letter; // what was wrong

        Expander(Heap heap, Store store) {
            this.heap = heap;
            this.store = store;
            macros = new Macros(heap, store);
            meanings = new Row(SYMBOLS, SYMBOLS);
            rules = heap.newRoots(SYMBOLS, SYMBOLS);
            lists = heap.newRoots(LEVELS, LEVELS);
            scopes = heap.newRoots(LEVELS, LEVELS);
            outcomes = heap.newRoots(LEVELS, LEVELS);
            kinds = new Row(LEVELS, LEVELS);
            infos = new Row(LEVELS, LEVELS);
            starts = new Row(LEVELS, LEVELS);
            slots = new Row(16, MAX_ROW);
        }

        /** Makes the image of a program; whether it is right. Then used tells how many expansions of macros there were. */
        boolean expand(int number) {
            program = number;
            store.recallMeanings(program, meanings, rules);
            store.openImage(program);
            used = 0;
            letter = 'x';
            level = -1;
            slots.used = 0;
            openLevel(WHOLE, 0, EMPTY_CELL, 0);
            outcomes.put(0, store.datumOf(program));
            boolean isRight = true;
            for (int i = 0; i < MAX_STEPS && isRight && level >= 0; i++) {
                int form = nextForm();
                outcomes.put(level, form);
                isRight = makeRoom(STEP + 4 * (store.measureOf(form) & SIZE_MASK));
                outcomes.put(level, 0);
                int symbol = keywordOrMacro(form);
                if (isRight && form == 0) {
                    closeLevel();
                } else if (isRight && meanings.get(symbol) == MACRO) {
                    int rule = macros.fittingRule(rules.get(symbol), form, scopes.get(level));
                    outcomes.put(level, form);
                    isRight = rule != 0 && used < MAX_EXPANSIONS && makeRoom(SLACK + 2 * cellsFor(rule));
                    used += isRight ? 1 : 0;
                    outcomes.put(level, isRight ? macros.outcomeOf(rule, form) : 0);
                    isRight = outcomes.get(level) != 0;
                } else if (isRight) {
                    int slot = symbol >= 0 ? keywordForm(symbol, form) : plainForm(form);
                    isRight = slot != 0;
                    if (slot > 0) {
                        slots.add(slot);
                    }
                }
            }
            lists.fillWithZeros();
            scopes.fillWithZeros();
            outcomes.fillWithZeros();
            rules.fillWithZeros();
            store.closeImage(isRight ? slots.get(0) : 0);
            return isRight;
        }

        /** As many cells as the variables of a rule are bound in at once: again below each ellipsis around. */
        private int cellsFor(int rule) {
            int pattern = heap.at(rule, FIRST);
            int deepest = store.measureOf(pattern) >> DEPTH_SHIFT & DEPTH_MASK;
            return names(pattern, false, 0) * (2 + Math.min(deepest, names(pattern, true, 0)));
        }

        /** How many names there are in a pattern, or just ellipses. */
        private int names(int pattern, boolean areEllipses, int level) {
            int count = 0;
            int cell = pattern;
            for (int i = 0; i < MAX_SIZE && heap.kindOf(cell) == PAIR && level <= MAX_LEVEL; i++) {
                count += names(heap.at(cell, FIRST), areEllipses, level + 1);
                cell = heap.at(cell, REST);
            }
            boolean isCounted = store.isName(cell) && (!areEllipses || store.symbolOf(cell) == ELLIPSIS_SYMBOL);
            return isCounted ? count + 1 : count;
        }

        private boolean makeRoom(int cells) {
            if (heap.freeCells < cells && !heap.makeRoom(cells, RESERVE / 2) || !store.hasPages(MOST_PAGES)) {
                letter = 'o';
            }
            return letter == 'x';
        }

        private void openLevel(int kind, int info, int forms, int scope) {
            level++;
            lists.put(level, forms);
            scopes.put(level, scope);
            outcomes.put(level, 0);
            kinds.put(level, kind);
            infos.put(level, info);
            starts.put(level, slots.used);
        }

        /** Puts the slot of a form in place of those of its parts, which have all been expanded. */
        private void closeLevel() {
            int kind = kinds.get(level);
            int first = starts.get(level);
            int last = slots.used;
            if (level > 0) {
                boolean isLambda = kind == nodeOf(LAMBDA);
                int place = isLambda ? store.nextOffset() : beginNode();
                int around = kind & TAG_MASK | place << SLOT_SHIFT;
                int active = kind == CALL || kind == BRANCH || kind > OTHER ? ACTIVE : 0;
                slots.used = first;
                if ((kind & TAG_MASK) == OTHER) {
                    store.emit(kind >> SLOT_SHIFT);
                    store.emit(infos.get(level));
                }
                if (isLambda) {
                    around = SEQUENCE | place + BODY_PLACE << SLOT_SHIFT;
                }
                for (int i = first; i < last; i++) {
                    active |= isLambda ? 0 : slots.get(i) & ACTIVE;
                    link(slots.get(i), around, i - first);
                }
                store.emit(0);
                slots.add(kind & TAG_MASK | active | place << SLOT_SHIFT);
            }
            lists.put(level, 0);
            scopes.put(level, 0);
            level--;
        }

        /** Begins with slots or a node: ahead of them is place for what is around them. Where they are. */
        private int beginNode() {
            store.emit(0);
            return store.emit(0) + 1;
        }

        /** Puts a slot into the image, and tells its node what is around it. */
        private void link(int slot, int around, int index) {
            if ((slot & TAG_MASK) < OTHER || (slot & ACTIVE) != 0) {
                store.patch((slot >>> SLOT_SHIFT) - 2, around);
                store.patch((slot >>> SLOT_SHIFT) - 1, index);
            }
            store.emit(slot);
        }

        /** The next form of the level; 0 if there is none. */
        private int nextForm() {
            int outcome = outcomes.get(level);
            if (outcome != 0) {
                outcomes.put(level, 0);
                return outcome;
            }
            int list = lists.get(level);
            if (heap.kindOf(list) != PAIR) {
                return 0;
            }
            lists.put(level, heap.at(list, REST));
            return heap.at(list, FIRST);
        }

        /** The symbol of the first part of a list, if it is a global name and a keyword or a macro; otherwise -1. */
        private int keywordOrMacro(int form) {
            if (heap.kindOf(form) != PAIR || store.lengthOf(form) < 0) {
                return -1;
            }
            int head = heap.at(form, FIRST);
            int symbol = store.find(head, scopes.get(level)) == 0 ? store.symbolOf(head) : -1;
            int meaning = meanings.get(symbol);
            return meaning == KEYWORD || meaning == MACRO ? symbol : -1;
        }

        /** The slot of a form without a keyword; 0 if it is wrong. */
        private int plainForm(int form) {
            int formKind = heap.kindOf(form);
            if (formKind == NUMBER || formKind == TRUTH) {
                return CONSTANT | form << SLOT_SHIFT;
            }
            if (formKind == PAIR && store.lengthOf(form) > 0) {
                return around(CALL, 0, form, scopes.get(level));
            }
            return store.isName(form) ? variable(form) : 0;
        }

        // A scope notes the place of its name among the parameters, and whether it is the last one of its lambda, so that
        // the next one belongs to a lambda further out.
        private int variable(int name) {
            int scope = scopes.get(level);
            int bound = store.find(name, scope);
            if (bound != 0) {
                int depth = 0;
                for (int i = 0; i < MAX_CELLS && scope != bound; i++) {
                    depth += heap.noteOf(scope) & 1;
                    scope = heap.at(scope, NEXT);
                }
                return LOCAL | heap.noteOf(bound) >> 1 << SLOT_SHIFT | depth << DEPTH_OUT_SHIFT;
            }
            int symbol = store.symbolOf(name);
            int meaning = meanings.get(symbol);
            return meaning == KEYWORD || meaning == MACRO ? 0 : GLOBAL | symbol << SLOT_SHIFT;
        }

        /** Begins with the forms in another one; 0 if they would be within too many others. */
        private int around(int kind, int info, int forms, int scope) {
            if (level >= MAX_FORMS_AROUND) {
                return 0;
            }
            openLevel(kind, info, forms, scope);
            return OPENED;
        }

        private int keywordForm(int keyword, int form) {
            int count = store.lengthOf(form) - 1;
            int parts = heap.at(form, REST);
            int scope = scopes.get(level);
            int first = heap.at(parts, FIRST);
            int behind = heap.at(parts, REST);
            boolean isWhole = level == 0;
            switch (keyword) {
                case QUOTE_SYMBOL:
                    return count == 1 ? quoteForm(first) : 0;
                case IF_SYMBOL:
                    return count == 2 || count == 3 ? around(BRANCH, 0, parts, scope) : 0;
                case LAMBDA_SYMBOL:
                    return count >= 2 ? lambdaForm(first, behind) : 0;
                case DEFINE_SYMBOL:
                    return count == 2 && isWhole && store.isName(first)
                            ? around(nodeOf(DEFINITION), store.symbolOf(first), behind, scope)
                            : 0;
                case SET_SYMBOL:
                    return count == 2 && store.isName(first) ? setForm(variable(first), behind) : 0;
                case BEGIN_SYMBOL:
                    return count >= 1 ? around(SEQUENCE, 0, parts, scope) : 0;
                default:
                    return count >= 2 && isWhole && store.isName(first) && macros.areRules(behind)
                            ? syntaxForm(store.symbolOf(first), behind)
                            : 0;
            }
        }

        /** What a level is for a kind of node. */
        private static int nodeOf(int kind) {
            return OTHER | kind << SLOT_SHIFT;
        }

        private int syntaxForm(int symbol, int definition) {
            store.setNewRules(program, definition);
            int place = store.emit(SYNTAX);
            store.emit(symbol);
            return OTHER | place << SLOT_SHIFT;
        }

        private int setForm(int variable, int forms) {
            if (variable == 0) {
                return 0;
            }
            boolean isLocal = (variable & TAG_MASK) == LOCAL;
            return isLocal
                    ? around(nodeOf(SET_LOCAL), variable, forms, scopes.get(level))
                    : around(nodeOf(SET_GLOBAL), variable >>> SLOT_SHIFT, forms, scopes.get(level));
        }

        private int lambdaForm(int parameters, int body) {
            int names = 0;
            int count = 0;
            int cell = parameters;
            for (int i = 0; i < MAX_SIZE && heap.kindOf(cell) == PAIR; i++) {
                int name = heap.at(cell, FIRST);
                if (!store.isName(name) || store.find(name, names) != 0) {
                    return 0;
                }
                names = heap.make(LINK, 0, name, names, 0);
                count++;
                cell = heap.at(cell, REST);
            }
            boolean hasRest = store.isName(cell);
            if (hasRest ? store.find(cell, names) != 0 : heap.kindOf(cell) != EMPTY) {
                return 0;
            }
            int outer = scopes.get(level);
            int scope = hasRest ? heap.make(SCOPE, count << 1 | 1, cell, outer, 0) : outer;
            for (int i = count - 1; i >= 0; i--) {
                scope = heap.make(SCOPE, i << 1 | (scope == outer ? 1 : 0), heap.at(names, ITEM), scope, 0);
                names = heap.at(names, NEXT);
            }
            return around(nodeOf(LAMBDA), count << 1 | (hasRest ? 1 : 0), body, scope);
        }

        /** The slot of a quoted datum with all marks taken off; each pair with a mark in it is made anew once. */
        private int quoteForm(int datum) {
            anew = 0;
            int plain = plainOf(datum, 0);
            for (int i = 0; i < MAX_SIZE && anew != 0; i++) {
                heap.setNote(heap.at(anew, ITEM), 0);
                anew = heap.at(anew, NEXT);
            }
            if ((plain & 1) == 0) {
                return QUOTATION | plain >>> 1 << SLOT_SHIFT;
            }
            int place = store.emit(QUOTE);
            store.emit(plain >>> 1);
            return OTHER | place << SLOT_SHIFT;
        }

        /**
         * A datum in the image: twice a cell, or twice the offset of a pair and 1. A pair that was laid stays as it is; one
         * that a macro made is put into the image, and bears a note of where it is: up to the end of the form if there are
         * marks in it, otherwise up to the end of the program.
         */
        private int plainOf(int datum, int depth) {
            int pairs = 0;
            int cell = datum;
            for (int i = 0; i < MAX_SIZE && isToBePut(cell); i++) {
                pairs = heap.make(LINK, 0, cell, pairs, 0);
                cell = heap.at(cell, REST);
            }
            int plain = cell << 1;
            if (heap.kindOf(cell) == RENAMED) {
                plain = FIRST_SYMBOL_CELL + store.symbolOf(cell) << 1;
            } else if (heap.kindOf(cell) == PAIR && heap.noteOf(cell) != 0) {
                plain = heap.noteOf(cell) << 1 | 1;
            }
            for (int i = 0; i < MAX_SIZE && pairs != 0 && depth <= MAX_LEVEL; i++) {
                int old = heap.at(pairs, ITEM);
                int first = plainOf(heap.at(old, FIRST), depth + 1);
                int place = store.emit(first);
                store.emit(plain);
                plain = place << 1 | 1;
                heap.setNote(old, place);
                if ((heap.at(old, MEASURE) & RENAMED_INSIDE) != 0) {
                    anew = heap.make(LINK, 0, old, anew, 0);
                }
                pairs = heap.at(pairs, NEXT);
            }
            return plain;
        }

        private boolean isToBePut(int cell) {
            return heap.kindOf(cell) == PAIR && (heap.at(cell, HEAD) & KEPT) == 0 && heap.noteOf(cell) == 0;
        }
    }

    /**
     * Rows of values, the lists that are made of them, and what is known of the body at hand.
     *
     * <p>A run can hold thousands of values ahead of each of its applications, more than there is room for. So they are not
     * held, but the episode in which they came about: what is evaluated from where a body begins, or goes on with a value,
     * up to the next application. An episode takes one cell, whatever comes about in it; what a part of it came to is told
     * by the code at its place, with the variables as they were then, and is looked for when it is wanted (see Body).
     *
     * <p>A row is one value, which is its own row; ITEMS, a few values; an episode, whose values are found by their places
     * in code; JOINED, those of a row up to a height, and others from there on; ARGUMENTS, the arguments of a call; LISTED,
     * the parts of a list.
     */
    private static final class Values {
        // Values that are held as they are, if they take no more cells than this.
        private static final int MOST_PLAIN = 3;
        private static final int MOST_CELLS = 2;
        private static final int MOST_TESTS = 61;
        private static final int NEAR = 48; // places of a row that are not looked for again and again
        private static final int MOST_STAMPS = 1500000000;
        private static final int BUCKET_BITS = 12;
        private static final int MAX_BUCKETS = 1 << 19;
        private static final int GLOBAL_DEPTH = 127;
        private static final int TEST_DEPTH = 126;
        private static final int DEPTH_BITS = 7;
        private static final int WAY = 4;
        private static final int WAYS = 4096;
        private static final int WAYS_SHIFT = 20;
        private static final int NO_LENGTH = -1;
        private static final int UNKNOWN_LENGTH = -2;
        static final int NONE = -1;

        private final Heap heap;
        private final Store store;
        int stamps;
        // What must be found before a value that was looked for is there: the part of an episode at a place, or the variable
        // of an environment, of which the place is then ~; or minus the number of a program that must be expanded; or 0.
        int wanted;
        int wantedPlace;
        boolean isGlobalSeen; // an episode was made that may look at the newest version of global variables
        int built; // the row of what waits in the body at hand, and of the arguments above; 0 if it is not made
        private final Row gathered;
        // The body at hand: the row that is below its values, and for each episode of it at what height its values begin,
        // where it began, the value it went on with, its stamp, its cell if there is one, and what its tests came to (two
        // numbers); program and slot of the body.
        private final Row base;
        private final Row begins;
        private final Row paths;
        private final Row gifts;
        private final Row times;
        private final Row episodes;
        private final Row testsOfBody;
        private final Row begun;
        final Row stack;
        // What was found on the way through code: the code, the key, the limit, a place.
        private final Row ways;
        private int waysCollections;

        Values(Heap heap, Store store) {
            this.heap = heap;
            this.store = store;
            gathered = heap.newRoots(MOST_PLAIN + 1, MOST_PLAIN + 1);
            base = heap.newRoots(1, 1);
            begins = new Row(16, MAX_ROW);
            paths = heap.newRoots(16, MAX_ROW);
            gifts = heap.newRoots(16, MAX_ROW);
            times = new Row(16, MAX_ROW);
            episodes = heap.newRoots(16, MAX_ROW);
            testsOfBody = new Row(16, 2 * MAX_ROW);
            begun = new Row(2, 2);
            stack = heap.newRoots(16, MAX_ROW);
            stack.used = 0;
            ways = new Row(WAY, WAY * WAYS);
            forgetBody();
        }

        int nextStamp() {
            stamps++;
            return stamps;
        }

        boolean areStampsLarge() {
            return stamps >= MOST_STAMPS;
        }

        /** Lets stamps be smaller numbers in the same order: they are left out by the thousand where no cell bears one. */
        void renumber() {
            Row seen = new Row(MAX_BUCKETS / 32, 0);
            Row ranks = new Row(MAX_BUCKETS / 32, 0);
            see(seen, 0);
            see(seen, stamps);
            for (int i = 0; i < begins.used; i++) {
                see(seen, times.get(i));
            }
            for (int cell = 1; cell < heap.cells(); cell++) {
                see(seen, hasStamp(cell) ? heap.at(cell, STAMP) : 0);
            }
            for (int i = 1; i < MAX_BUCKETS / 32; i++) {
                ranks.put(i, ranks.get(i - 1) + Integer.bitCount(seen.get(i - 1)));
            }
            for (int cell = 1; cell < heap.cells(); cell++) {
                if (hasStamp(cell)) {
                    heap.put(cell, STAMP, renumbered(seen, ranks, heap.at(cell, STAMP)));
                }
            }
            for (int i = 0; i < begins.used; i++) {
                times.put(i, renumbered(seen, ranks, times.get(i)));
            }
            stamps = renumbered(seen, ranks, stamps);
        }

        private boolean hasStamp(int cell) {
            int cellKind = heap.kindOf(cell);
            boolean isOfVersion = cellKind >= SETTING && cellKind <= GROUP_SETTINGS && cellKind != GROUP;
            boolean isOfEpisode = cellKind == BEGUN || cellKind == RESUMED;
            return isOfVersion || isOfEpisode || cellKind == CLOSURE || cellKind == VIEW || cellKind == QUOTED;
        }

        private static void see(Row seen, int stamp) {
            int bucket = stamp >> BUCKET_BITS;
            seen.put(bucket >> 5, seen.get(bucket >> 5) | 1 << (bucket & 31));
        }

        private static int renumbered(Row seen, Row ranks, int stamp) {
            int bucket = stamp >> BUCKET_BITS;
            int ahead = seen.get(bucket >> 5) & (1 << (bucket & 31)) - 1;
            int rank = ranks.get(bucket >> 5) + Integer.bitCount(ahead);
            return rank << BUCKET_BITS | stamp & (1 << BUCKET_BITS) - 1;
        }

        // ---- what episodes came to

        boolean isEpisode(int cell) {
            int cellKind = heap.kindOf(cell);
            return cellKind == BEGUN || cellKind == RESUMED;
        }

        int programOf(int episode) {
            int note = heap.noteOf(episode);
            return heap.kindOf(episode) == BEGUN ? note & PROGRAM_MASK : heap.noteOf(note);
        }

        /**
         * What a test of an episode came to, by how many of its tests were ahead of it: 1 or 0; -1 if that is not known. They
         * stand behind a 1, the last one in the lowest bit.
         */
        int testOf(int episode, int index) {
            int gift = heap.at(episode, ITEM);
            boolean isBegun = heap.kindOf(episode) == BEGUN;
            long tests = isBegun ? heap.noteOf(episode) >>> PROGRAM_BITS : 0;
            if (!isBegun && heap.kindOf(gift) == TESTS) {
                tests = heap.at(gift, 2) & LOW_WORD | (long) heap.at(gift, 3) << 32;
            }
            int count = 0;
            for (int i = 1; i < 63 && tests >>> i != 0; i++) {
                count++;
            }
            return index < count ? (int) (tests >>> count - 1 - index) & 1 : -1;
        }

        /** Notes what a test of the episode at hand came to; if they are too many, none is known. */
        void noteTest(boolean holds) {
            int index = 2 * (begins.used - 1);
            long tests = testsOfBody.get(index) & LOW_WORD | (long) testsOfBody.get(index + 1) << 32;
            tests = tests >>> MOST_TESTS != 0 ? 0 : 2 * tests + (holds && tests != 0 ? 1 : 0);
            testsOfBody.put(index, (int) tests);
            testsOfBody.put(index + 1, (int) (tests >>> 32));
        }

        /** The place of a part of a form. */
        static int placeOfPart(int slot, int index) {
            return (slot >>> SLOT_SHIFT) + ((slot & TAG_MASK) == OTHER ? 2 : index);
        }

        /**
         * What a part of an episode came to, if that is known, or told by its slot alone. If not, it is 0, and a program may
         * be wanted.
         */
        int simplePart(int episode, int place) {
            boolean isBegun = heap.kindOf(episode) == BEGUN;
            int note = heap.noteOf(episode);
            int program = isBegun ? note & PROGRAM_MASK : heap.noteOf(note);
            if (!store.isLoaded(program)) {
                wanted = -program;
                return 0;
            }
            if (!isBegun && place == placeOfPart(heap.at(note, ITEM), heap.at(note, NEXT))) {
                int gift = heap.at(episode, ITEM);
                return heap.kindOf(gift) == TESTS ? heap.at(gift, ITEM) : gift;
            }
            int slot = store.word(program, place);
            int content = slot >>> SLOT_SHIFT;
            switch (slot & TAG_MASK) {
                case CONSTANT:
                case QUOTATION:
                    return content;
                case OTHER:
                    int info = store.word(program, content + 1);
                    switch (store.word(program, content)) {
                        case LAMBDA:
                            int address = program << OFFSET_BITS | content;
                            return heap.make(CLOSURE, info, address, heap.at(episode, AROUND), heap.at(episode, STAMP));
                        case QUOTE:
                            return heap.make(QUOTED, 0, program << OFFSET_BITS | info, 0, 0);
                        default:
                            return NOTHING_CELL;
                    }
                default:
                    return heap.known(episode, place);
            }
        }

        private void want(int cell, int place) {
            if (wanted == 0) {
                wanted = cell;
                wantedPlace = place;
            }
        }

        /** What a variable of an environment is, if that is known; 0 if it must be looked for. */
        int knownVariable(int environment, int place) {
            int value = heap.known(environment, ~place);
            if (value == 0) {
                want(environment, ~place);
            }
            return value;
        }

        // ---- what was found in the code of episodes

        /**
         * By what an episode is known that takes the same way through the same code as others: its tests, which variable is
         * looked for, or which test, if the target is -1; 0 if that is not known, NONE if the variable is not seen in it.
         */
        private int keyOfWay(int episode, int target, int place) {
            int gift = heap.at(episode, ITEM);
            int tests = 1;
            if (heap.kindOf(episode) == BEGUN) {
                tests = heap.noteOf(episode) >>> PROGRAM_BITS;
            } else if (heap.kindOf(gift) == TESTS) {
                boolean isShort = heap.at(gift, 3) == 0 && heap.at(gift, 2) >>> NOTE_BITS - PROGRAM_BITS == 0;
                tests = isShort ? heap.at(gift, 2) : 0;
            }
            int around = heap.at(episode, AROUND);
            int depth = target == 0 ? GLOBAL_DEPTH : target < 0 ? TEST_DEPTH : 0;
            for (int i = 0; i < MAX_LEVEL && target > 0 && around != target; i++) {
                if (around == 0) {
                    return NONE;
                }
                around = heap.at(around, NEXT);
                depth++;
            }
            return tests == 0 ? 0 : (tests << DEPTH_BITS | depth) << COUNT_BITS | place;
        }

        private int codeOf(int episode) {
            int note = heap.noteOf(episode);
            boolean isBegun = heap.kindOf(episode) == BEGUN;
            return isBegun ? (note & PROGRAM_MASK) << OFFSET_BITS | heap.at(episode, ITEM) >>> SLOT_SHIFT : ~note;
        }

        private static int wayOf(int code, int key, int limit) {
            return WAY * ((code * 0x9E3779B1 + key * 0x7FEB352D + limit * 0x2C1B3C6D) * 0x85EBCA6B >>> WAYS_SHIFT);
        }

        /**
         * The place of what an episode set a variable to at last, ahead of a limit or its end, or of what is chosen by a test;
         * NONE if it did not set it; 0 if that is not known.
         */
        int knownOnWay(int episode, int target, int place, int limit) {
            int key = keyOfWay(episode, target, place);
            int code = codeOf(episode);
            int way = wayOf(code, key, limit);
            boolean isKnown = waysCollections == heap.collections
                    && ways.get(way) == code && ways.get(way + 1) == key && ways.get(way + 2) == limit;
            return key == NONE ? NONE : key != 0 && isKnown ? ways.get(way + 3) : 0;
        }

        /** Keeps what was found on the way through an episode. */
        void knowOnWay(int episode, int target, int place, int limit, int found) {
            int key = keyOfWay(episode, target, place);
            int code = codeOf(episode);
            int way = wayOf(code, key, limit);
            if (waysCollections != heap.collections) {
                ways.fillWithZeros();
                waysCollections = heap.collections;
            }
            if (key > 0) {
                ways.put(way, code);
                ways.put(way + 1, key);
                ways.put(way + 2, limit);
                ways.put(way + 3, found);
            }
        }

        /** In which part of a form that has its slots at a place an episode went on; -1 if it began outside. */
        int indexWithin(int episode, int content) {
            int path = heap.kindOf(episode) == RESUMED ? heap.noteOf(episode) : 0;
            int program = heap.noteOf(path);
            int slot = heap.at(path, ITEM);
            int index = heap.at(path, NEXT);
            for (int i = 0; i < MAX_LEVEL && slot != 0; i++) {
                int place = slot >>> SLOT_SHIFT;
                if (place == content) {
                    return index;
                }
                slot = store.word(program, place - 2);
                index = store.word(program, place - 1);
            }
            return -1;
        }

        // ---- rows

        boolean isRow(int cell) {
            int cellKind = heap.kindOf(cell);
            return cellKind >= ITEMS && cellKind <= RESUMED;
        }

        /** A value of a row of the body, at a height, where its place in the code is known; 0 if it is wanted first. */
        int look(int row, int height, int place) {
            int node = row;
            for (int i = 0; i < MAX_ROW && heap.kindOf(node) == JOINED && height < heap.at(node, EXTRA); i++) {
                node = heap.at(node, NEXT);
            }
            boolean isJoined = heap.kindOf(node) == JOINED;
            int item = isJoined ? heap.at(node, ITEM) : node;
            if (!isEpisode(item)) {
                return plainAt(item, isJoined ? height - heap.at(node, EXTRA) : height);
            }
            int value = simplePart(item, place);
            if (value == 0) {
                want(item, place);
            }
            return value;
        }

        /** A value of a row that is held as it is. */
        int plainAt(int row, int index) {
            if (heap.kindOf(row) != ITEMS) {
                return index == 0 ? row : 0;
            }
            int value = index < NEAR ? 0 : heap.known(row, index);
            if (value != 0 || index < 0) {
                return value;
            }
            int cell = row;
            for (int i = 0; i < index / 3; i++) {
                cell = heap.noteOf(cell);
            }
            value = heap.at(cell, index % 3 + 1);
            if (index >= NEAR) {
                heap.know(row, index, value);
            }
            return value;
        }

        /**
         * A variable of an environment by the row that it is bound to, or a part of a list that is made of a row; 0 if it is
         * wanted first.
         */
        int variable(int environment, int row, int index, boolean isList) {
            int node = row;
            int at = index;
            boolean isOfList = isList;
            if (heap.kindOf(node) == LISTED) {
                if (at == heap.at(node, EXTRA)) {
                    return heap.at(node, NEXT);
                }
                int tail = at < NEAR ? 0 : heap.known(node, at);
                if (tail == 0) {
                    tail = tailOf(heap.at(node, ITEM), at);
                    if (at >= NEAR) {
                        heap.know(node, at, tail);
                    }
                }
                node = heap.at(tail, ITEM);
                if (heap.kindOf(tail) != VIEW || !isRow(node)) {
                    return tail == 0 ? 0 : partOf(tail);
                }
                at = heap.at(tail, NEXT);
                isOfList = true;
            }
            int place = (heap.at(environment, EXTRA) >>> COUNT_BITS) + 1 + at;
            if (heap.kindOf(node) == ARGUMENTS) {
                int note = heap.noteOf(node);
                if (!isOfList && (note & HAS_REST) != 0 && at == (note & COUNT_MASK)) {
                    int count = note >>> COUNT_BITS + 1;
                    return count > at ? heap.make(VIEW, count, node, at, 0) : EMPTY_CELL;
                }
                place = heap.at(node, NEXT) + 1 + at;
                at = heap.at(node, NEXT) == 0 ? at : heap.at(node, EXTRA) + 1 + at;
                node = heap.at(node, ITEM);
            }
            for (int i = 0; i < MAX_ROW && heap.kindOf(node) == JOINED && at < heap.at(node, EXTRA); i++) {
                node = heap.at(node, NEXT);
            }
            at = heap.kindOf(node) == JOINED ? at - heap.at(node, EXTRA) : at;
            node = heap.kindOf(node) == JOINED ? heap.at(node, ITEM) : node;
            int cellKind = heap.kindOf(node);
            if (cellKind != BEGUN && cellKind != RESUMED) {
                return plainAt(node, at);
            }
            int value = simplePart(node, place);
            wantedPlace = value == 0 && wanted == 0 ? place : wantedPlace;
            wanted = value == 0 && wanted == 0 ? node : wanted;
            return value;
        }

        /** A row that is held as it is: one value is its own row. */
        int plain(Row row, int first, int length) {
            if (length == 1) {
                return row.get(first);
            }
            int items = 0;
            for (int i = (length + 2) / 3 * 3 - 3; i >= 0; i -= 3) {
                int other = i + 1 < length ? row.get(first + i + 1) : 0;
                int third = i + 2 < length ? row.get(first + i + 2) : 0;
                items = heap.make(ITEMS, items, row.get(first + i), other, third);
            }
            return items;
        }

        /** A row of the first parts of a list, and perhaps of what is left of it. */
        int rowOfList(int list, int count, boolean hasRest) {
            int rest = hasRest ? copyOf(tailOf(list, count)) : 0;
            int left = list;
            gathered.used = 0;
            for (int i = 0; i < count && count <= MOST_PLAIN && wanted == 0; i++) {
                gathered.add(firstOf(left));
                left = restOf(left);
            }
            boolean isPlain = count <= MOST_PLAIN && wanted == 0;
            wanted = 0;
            gathered.put(count, rest);
            return isPlain ? plain(gathered, 0, hasRest ? count + 1 : count) : heap.make(LISTED, 0, list, rest, count);
        }

        // ---- the body at hand

        void forgetBody() {
            begins.used = 0;
            paths.used = 0;
            gifts.used = 0;
            times.used = 0;
            episodes.used = 0;
            base.used = 0;
            built = 0;
        }

        void beginBody(int program, int slot) {
            begun.put(0, program);
            begun.put(1, slot);
            beginEpisode(0, 0, 0);
        }

        void resumeBody(int row, int height, int path, int value) {
            base.put(0, row);
            base.used = 1;
            beginEpisode(height, path, value);
        }

        /** Begins with an episode at this height, where what was above is no more. */
        void beginEpisode(int height, int path, int value) {
            int last = begins.used;
            for (int i = 0; i < MAX_ROW && last > 0 && begins.get(last - 1) >= height; i++) {
                last--;
            }
            begins.put(last, height);
            paths.put(last, path);
            gifts.put(last, value);
            times.put(last, nextStamp());
            testsOfBody.put(2 * last, 1);
            testsOfBody.put(2 * last + 1, 0);
            episodes.put(last, 0);
            begins.used = last + 1;
            paths.used = last + 1;
            gifts.used = last + 1;
            episodes.used = last + 1;
        }

        /** The stamp of the episode at hand. */
        int lastStamp() {
            return times.get(begins.used - 1);
        }

        int countOfEpisodes() {
            return begins.used;
        }

        int base() {
            return base.used > 0 ? base.get(0) : 0;
        }

        int beginOfLast() {
            return begins.get(begins.used - 1);
        }

        boolean isLastMade() {
            return episodes.get(begins.used - 1) != 0;
        }

        int lastEpisode(int environment) {
            return episodeAt(begins.used - 1, environment);
        }

        private int episodeAt(int index, int environment) {
            int episode = episodes.get(index);
            if (episode == 0) {
                int path = paths.get(index);
                int stamp = times.get(index);
                int low = testsOfBody.get(2 * index);
                int high = testsOfBody.get(2 * index + 1);
                int gift = gifts.get(index);
                if (path == 0) {
                    int tests = high != 0 || low >>> NOTE_BITS - PROGRAM_BITS != 0 ? 0 : low;
                    episode = heap.make(BEGUN, begun.get(0) | tests << PROGRAM_BITS, begun.get(1), environment, stamp);
                } else {
                    gift = high != 0 || low != 1 ? heap.make(TESTS, 0, gift, low, high) : gift;
                    episode = heap.make(RESUMED, path, gift, environment, stamp);
                }
                episodes.put(index, episode);
                isGlobalSeen = true;
                int around = environment;
                for (int i = 0; i < MAX_LEVEL && around != 0; i++) {
                    heap.setNote(around, heap.noteOf(around) | SEEN);
                    around = heap.at(around, NEXT);
                }
            }
            return episode;
        }

        /** A row of the values that wait up to a height, where the stack has those from below on. */
        int rowUpTo(int to, int below, int environment) {
            int row = base();
            for (int i = 0; i < begins.used && begins.get(i) < to; i++) {
                int from = begins.get(i);
                int end = i + 1 < begins.used ? Math.min(to, begins.get(i + 1)) : to;
                if (end > from) {
                    boolean isPlain = from >= below && episodes.get(i) == 0 && areFew(from - below, end - from, MOST_CELLS);
                    int item = isPlain ? plain(stack, from - below, end - from) : episodeAt(i, environment);
                    row = from == 0 ? item : heap.make(JOINED, 0, item, row, from);
                }
            }
            return row;
        }

        /** Whether so many values of the stack take few cells if they are held as they are. */
        boolean areFew(int first, int count, int most) {
            int cells = count > 1 ? 1 : 0;
            for (int i = first; i < first + count && count <= MOST_PLAIN; i++) {
                cells += isCostly(stack.get(i)) ? 1 : 0;
            }
            return count <= MOST_PLAIN && cells <= most;
        }

        /** Whether a value takes a cell if it is held, as it would be made again otherwise. */
        boolean isCostly(int value) {
            int cellKind = heap.kindOf(value);
            return cellKind == CLOSURE || cellKind == VIEW || cellKind == QUOTED;
        }

        // ---- lists

        boolean isPair(int cell) {
            int cellKind = heap.kindOf(cell);
            return cellKind == PAIR || cellKind == VIEW || cellKind == QUOTED;
        }

        /** The first part of a pair; 0 if something is wanted for it first. */
        int firstOf(int pair) {
            int base = heap.at(pair, ITEM);
            boolean isOfRow = heap.kindOf(pair) == VIEW && isRow(base);
            return isOfRow ? variable(0, base, heap.at(pair, NEXT), true) : partOf(pair);
        }

        /** The first part of a pair that is not of a row; 0 if a program is wanted for it first. */
        private int partOf(int pair) {
            int base = heap.at(pair, ITEM);
            switch (heap.kindOf(pair)) {
                case VIEW:
                    return heap.at(base, FIRST);
                case QUOTED:
                    int program = base >>> OFFSET_BITS;
                    int part = store.word(program, base & OFFSET_MASK);
                    if (!store.isLoaded(program)) {
                        wanted = -program;
                        return 0;
                    }
                    return (part & 1) == 0 ? part >>> 1 : heap.make(QUOTED, 0, program << OFFSET_BITS | part >>> 1, 0, 0);
                default:
                    return base;
            }
        }

        /** The other part of a pair; 0 if a program is wanted for it first. */
        int restOf(int pair) {
            return heap.kindOf(pair) == PAIR ? heap.at(pair, REST) : tailOf(pair, 1);
        }

        /**
         * What is left of a list behind so many parts; 0 if a program is wanted for it first. A copy is known by its stamp;
         * what is left of it is a copy, too.
         */
        int tailOf(int list, int parts) {
            int base = list;
            int place = 0;
            int stamp = 0;
            int count = 0;
            int left = parts;
            for (int i = 0; i < MAX_CELLS; i++) {
                int cellKind = heap.kindOf(base);
                if (cellKind == VIEW) {
                    stamp = stamp != 0 ? stamp : heap.at(base, STAMP);
                    place = heap.at(base, NEXT);
                    count = heap.noteOf(base);
                    base = heap.at(base, ITEM);
                    cellKind = heap.kindOf(base);
                }
                if (cellKind >= ITEMS && cellKind <= LISTED) {
                    return place + left < count ? heap.make(VIEW, count, base, place + left, stamp) : EMPTY_CELL;
                }
                if (cellKind == QUOTED) {
                    stamp = stamp != 0 ? stamp : heap.at(base, STAMP);
                    int address = heap.at(base, ITEM);
                    int program = address >>> OFFSET_BITS;
                    if (left > 0 && !store.isLoaded(program)) {
                        wanted = -program;
                        return 0;
                    }
                    int pair = (address & OFFSET_MASK) << 1 | 1;
                    for (int j = 0; j < MAX_SIZE && left > 0 && (pair & 1) != 0; j++) {
                        pair = store.word(program, (pair >>> 1) + 1);
                        left--;
                    }
                    if ((pair & 1) != 0) {
                        return heap.make(QUOTED, 0, program << OFFSET_BITS | pair >>> 1, 0, stamp);
                    }
                    base = pair >>> 1;
                } else if (left > 0 && cellKind == PAIR) {
                    base = heap.at(base, REST);
                    left--;
                } else {
                    return stamp != 0 && cellKind == PAIR ? heap.make(VIEW, 0, base, 0, stamp) : base;
                }
            }
            return 0;
        }

        /** A copy of a list, of which only the pairs are new. */
        int copyOf(int list) {
            int stamp = nextStamp();
            switch (heap.kindOf(list)) {
                case PAIR:
                    return heap.make(VIEW, 0, list, 0, stamp);
                case VIEW:
                    return heap.make(VIEW, heap.noteOf(list), heap.at(list, ITEM), heap.at(list, NEXT), stamp);
                case QUOTED:
                    return heap.make(QUOTED, 0, heap.at(list, ITEM), 0, stamp);
                default:
                    return list;
            }
        }

        /** A new pair, which bears the length of its list, if that is known, so that it is not counted again and again. */
        int pairOf(int first, int rest) {
            int length = quickLength(rest);
            int measure = length >= 0 ? NO_LENGTH - 2 - length : length == NO_LENGTH ? length : 0;
            return heap.make(PAIR, 0, first, rest, measure);
        }

        /** The length of a list if it is known; NO_LENGTH if it is no list, UNKNOWN_LENGTH if it must be counted. */
        private int quickLength(int list) {
            boolean isView = heap.kindOf(list) == VIEW;
            int cell = isView ? heap.at(list, ITEM) : list;
            switch (heap.kindOf(cell)) {
                case EMPTY:
                    return 0;
                case PAIR:
                    int noted = heap.at(cell, MEASURE);
                    return noted >= 0 ? UNKNOWN_LENGTH : noted == NO_LENGTH ? NO_LENGTH : NO_LENGTH - 1 - noted;
                case QUOTED:
                    return UNKNOWN_LENGTH;
                default:
                    return isView ? heap.noteOf(list) - heap.at(list, NEXT) : NO_LENGTH;
            }
        }

        /** The number of parts of a list; -1 if it does not end with the empty list, or if a program is wanted first. */
        int lengthOf(int list) {
            int cell = list;
            int length = 0;
            for (int i = 0; i < MAX_CELLS; i++) {
                int left = quickLength(cell);
                if (left != UNKNOWN_LENGTH) {
                    return left == NO_LENGTH ? -1 : length + left;
                }
                if (heap.kindOf(cell) == QUOTED) {
                    int pairs = countOfPairs(heap.at(cell, ITEM));
                    length += pairs;
                    cell = tailOf(cell, pairs);
                    if (cell == 0) {
                        return -1;
                    }
                } else {
                    cell = heap.at(heap.kindOf(cell) == VIEW ? heap.at(cell, ITEM) : cell, REST);
                    length++;
                }
            }
            return -1;
        }

        /** How many pairs of a program follow one another from one on; 1 if the program is wanted first. */
        private int countOfPairs(int address) {
            int program = address >>> OFFSET_BITS;
            int pair = (address & OFFSET_MASK) << 1 | 1;
            int count = 0;
            for (; count < MAX_SIZE && (pair & 1) != 0; count++) {
                pair = store.word(program, (pair >>> 1) + 1);
            }
            return count;
        }

        // ---- primitives

        /** What a primitive comes to, but for first and rest; below 0 is an error: minus its letter. */
        int answer(int symbol, int one, int other) {
            switch (symbol) {
                case 16:
                    return pairOf(one, other);
                case 19:
                    return truthCell(isPair(one));
                case 20:
                    return truthCell(one == EMPTY_CELL);
                case 21:
                    return truthCell(heap.areSame(one, other));
                case 25:
                    return truthCell(one == FALSE_CELL);
                default:
                    return heap.kindOf(one) == NUMBER && heap.kindOf(other) == NUMBER ? reckon(symbol, one, other) : -'t';
            }
        }

        private static int truthCell(boolean isTrue) {
            return isTrue ? TRUE_CELL : FALSE_CELL;
        }

        /** The primitives of numbers. No product of two parts in range is over 10 to the 18th: nothing wraps around. */
        private int reckon(int symbol, int one, int other) {
            long a = heap.at(one, AMOUNT);
            long b = heap.at(one, DENOMINATOR);
            long c = heap.at(other, AMOUNT);
            long d = heap.at(other, DENOMINATOR);
            int number;
            switch (symbol) {
                case 10:
                    number = Store.fraction(heap, a * d + c * b, b * d);
                    break;
                case 11:
                    number = Store.fraction(heap, a * d - c * b, b * d);
                    break;
                case 12:
                    number = Store.fraction(heap, a * c, b * d);
                    break;
                case 13:
                    if (c == 0) {
                        return -'z';
                    }
                    number = Store.fraction(heap, a * d, b * c);
                    break;
                case 14:
                    return truthCell(a * d < c * b);
                default:
                    return truthCell(a == c && b == d);
            }
            return number == 0 ? -'o' : number;
        }
    }

    /**
     * The variables: what they are set to, and what they were at the time of an episode that is looked at again.
     *
     * <p>What an episode sets are its settings, up to its end; then they become versions of the variables, as something may
     * look back: a SETTING of one variable; the SETTINGS of an episode, if there are more, which are looked for in its code;
     * or ALL_SET, the values of all variables. The newest version stands in place of the row in the environment, each one
     * knows the one before, and the row is the last; a stamp is that of the episode that set it. The global variables are an
     * environment, too, 0.
     *
     * <p>Environments of which variables are set together again and again are a group: an episode makes one cell for all of
     * them, GROUP_SETTINGS, and GROUPED is the version of each one. What it was before it came to the group is before that.
     */
    private static final class Variables {
        private static final int MOST_SETTINGS = 2;
        private static final int MOST_AT_END = 12;
        private static final int MASK_BITS = 23;
        private static final int HEADS = 1024;
        private static final int HEADS_SHIFT = 22;
        private static final int MEMOS = 64;
        private static final int MEMO_SHIFT = 26;
        // How many versions there may be until all variables are held: more of them if there are more variables.
        private static final int LEAST_LENGTH = 64;
        private static final int MOST_GLOBAL = 64;
        private static final int MOST_LOOKED = 256;
        private static final int MAX_PLACES = 2048;
        private static final int FEW_TOGETHER = 2; // environments that become a group
        private static final int MEMO = 4;
        static final int VERSION_FOUND = 2;
        static final int MEMBER_FOUND = 3;

        private final Heap heap;
        private final Store store;
        private final Values values;
        // The settings of the episode at hand; found by their variables.
        private final Row environments;
        private final Row places;
        private final Row contents;
        private final Row nexts;
        private final Row heads;
        private final Row newest; // of the global variables
        private int length; // how many versions there are since all global variables were held
        int filling; // an environment whose variables are to be held as they are; or 0
        private final Row filled;
        // Where the version of an environment was found last.
        private final Row memos;
        private int memoCollections;

        Variables(Heap heap, Store store, Values values) {
            this.heap = heap;
            this.store = store;
            this.values = values;
            environments = heap.newRoots(16, MAX_ROW);
            places = new Row(16, MAX_ROW);
            contents = heap.newRoots(16, MAX_ROW);
            nexts = new Row(16, MAX_ROW);
            heads = new Row(16, HEADS);
            newest = heap.newRoots(1, 1);
            filled = heap.newRoots(16, MAX_SIZE);
            memos = new Row(MEMO * MEMOS, MEMO * MEMOS);
            environments.used = 0;
            contents.used = 0;
            filled.used = 0;
            newest.put(0, heap.make(ALL_SET, 0, globalRow(), 0, 0));
        }

        private int globalRow() {
            filled.used = 0;
            for (int symbol = 0; symbol < SYMBOLS; symbol++) {
                filled.add(store.globalValue(symbol));
            }
            int row = values.plain(filled, 0, SYMBOLS);
            filled.used = 0;
            return row;
        }

        // ---- settings

        private static int headOf(int environment, int place) {
            return (environment * 31 + place) * 0x9E3779B1 >>> HEADS_SHIFT;
        }

        /** The setting of a variable in the episode at hand; -1 if there is none. */
        private int settingOf(int environment, int place) {
            int setting = environments.used > 0 ? heads.get(headOf(environment, place)) - 1 : -1;
            for (int i = 0; i < MAX_ROW && setting >= 0; i++) {
                if (places.get(setting) == place && environments.get(setting) == environment) {
                    return setting;
                }
                setting = nexts.get(setting) - 1;
            }
            return -1;
        }

        /** What a variable was set to in the episode at hand; Values.NONE if it was not. */
        int justSet(int environment, int place) {
            int setting = settingOf(environment, place);
            return setting < 0 ? Values.NONE : contents.get(setting);
        }

        void set(int environment, int place, int value) {
            int setting = settingOf(environment, place);
            if (setting < 0) {
                int head = headOf(environment, place);
                setting = environments.used;
                environments.put(setting, environment);
                environments.used = setting + 1;
                places.put(setting, place);
                contents.used = setting + 1;
                nexts.put(setting, heads.get(head));
                heads.put(head, setting + 1);
            }
            contents.put(setting, value);
        }

        private void forgetSettings() {
            for (int i = environments.used - 1; i >= 0; i--) {
                heads.put(headOf(environments.get(i), places.get(i)), 0);
            }
            environments.used = 0;
            contents.used = 0;
        }

        /** Forgets all that is at hand. */
        void forgetAll() {
            forgetSettings();
            filling = 0;
            filled.used = 0;
            values.wanted = 0;
        }

        int countOfSettings() {
            return environments.used;
        }

        /**
         * Lets the settings of the episode at hand be versions, as it ends. If they are many, they are looked for in the
         * episode; but not if its code does not tell where it ended. When a body ends, nothing of it is looked at again, so
         * they may take the place of those that nothing looks at. If the episode is kept for its values, too, and the values
         * that were set take cells, they are looked for in it, too.
         */
        void commit(int environment, boolean canBeAgain, boolean isEndOfBody, boolean isEpisodeKept) {
            for (int i = 0; i < environments.used; i++) {
                if (environments.get(i) != 0) {
                    heap.know(environments.get(i), ~places.get(i), contents.get(i));
                }
            }
            if (isEndOfBody) {
                replaceVersions();
            }
            boolean isSetAgain = isEndOfBody && isUnseen(environments.get(0));
            int most = isSetAgain ? MOST_AT_END : isEpisodeKept && hasCostly() ? 0 : MOST_SETTINGS;
            boolean areMany = canBeAgain && environments.used > most;
            int episode = areMany ? values.lastEpisode(environment) : 0;
            int repeated = 0;
            for (int i = 0; i < environments.used; i++) {
                repeated += addVersion(i, episode) ? 1 : 0;
            }
            if (repeated >= FEW_TOGETHER) {
                joinGroup();
            }
            if (length > MOST_GLOBAL) {
                hold(0, globalRow());
                length = 0;
            }
            forgetSettings();
        }

        /** Whether variables were set to values that take a cell if they are held. */
        private boolean hasCostly() {
            boolean isCostly = false;
            for (int i = 0; i < contents.used && i <= MOST_SETTINGS; i++) {
                isCostly = isCostly || values.isCostly(contents.get(i));
            }
            return isCostly;
        }

        /** Lets settings take the place of versions that no episode looks at; if that can be for all of them, none is left. */
        private void replaceVersions() {
            int found = 0;
            for (int i = 0; i < environments.used && found == i; i++) {
                found += replaceable(i) == 0 ? 0 : 1;
            }
            if (found == environments.used) {
                for (int i = 0; i < found; i++) {
                    heap.put(replaceable(i), ITEM, contents.get(i));
                }
                forgetSettings();
            }
        }

        /** Whether variables were set, and no episode was made since that sees it. */
        private boolean isUnseen(int environment) {
            boolean isSeen = environment == 0 ? values.isGlobalSeen : (heap.noteOf(environment) & SEEN) != 0;
            return !isSeen && isVersion(newestOf(environment));
        }

        /** The version of a variable that was set whose value may be another one, as it is unseen; 0 if there is none. */
        private int replaceable(int setting) {
            int environment = environments.get(setting);
            int version = newestOf(environment);
            int stamp = heap.at(version, STAMP);
            boolean isAlone = countOf(environment) == 1;
            boolean isUnseen = isUnseen(environment);
            for (int i = 0; i < MAX_PLACES && isUnseen && isVersion(version) && heap.at(version, STAMP) == stamp; i++) {
                int cellKind = heap.kindOf(version);
                boolean isOfIt = cellKind == SETTING && heap.noteOf(version) == places.get(setting);
                if (isOfIt || isAlone && cellKind == ALL_SET) {
                    return version;
                }
                version = cellKind == SETTING ? heap.at(version, NEXT) : 0;
            }
            return 0;
        }

        /** Lets a setting be a version, or be among those of the episode; 0 is none. Whether others were so the last time. */
        private boolean addVersion(int setting, int episode) {
            int target = environments.get(setting);
            int place = places.get(setting);
            int stamp = values.lastStamp();
            int before = newestOf(target);
            int bit = 1 << place % MASK_BITS;
            if (episode != 0 && heap.kindOf(before) == GROUPED) {
                int settings = groupSettings(heap.noteOf(before), episode, stamp);
                heap.setNote(settings, heap.noteOf(settings) | 1 << bitOf(target, place));
                if (heap.at(before, ITEM) != settings) {
                    heap.put(before, ITEM, settings);
                    note(target);
                }
                return false;
            }
            if (heap.kindOf(before) == SETTINGS && heap.at(before, STAMP) == stamp) {
                heap.setNote(before, heap.noteOf(before) | bit);
                return false;
            }
            if (episode == 0 && countOf(target) == 1) {
                setNewest(target, heap.make(ALL_SET, furtherThan(target, before), contents.get(setting), before, stamp));
                return false;
            }
            setNewest(target, episode == 0
                    ? heap.make(SETTING, place, contents.get(setting), before, stamp)
                    : heap.make(SETTINGS, bit, episode, before, stamp));
            note(target);
            return episode != 0 && target != 0 && heap.kindOf(before) == SETTINGS;
        }

        /** A version further back in which all variables are held, of one variable: one of many is known to those behind it. */
        private int furtherThan(int environment, int before) {
            int count = (heap.noteOf(environment) & ~SEEN) + 1 & SEEN - 1;
            heap.setNote(environment, count);
            boolean isHere = count % LEAST_LENGTH == 0 || heap.kindOf(before) != ALL_SET || heap.noteOf(before) == 0;
            return isHere ? fullAt(before) : heap.noteOf(before);
        }

        // ---- groups

        private static int bitOf(int environment, int place) {
            return ((environment * 31 + place) * 0x9E3779B1 >>> 1) % MASK_BITS;
        }

        /** The settings of a group in an episode; they are made if they are the first ones in it. */
        private int groupSettings(int group, int episode, int stamp) {
            int settings = heap.at(group, ITEM);
            if (settings == 0 || heap.at(settings, STAMP) != stamp) {
                settings = heap.make(GROUP_SETTINGS, 0, episode, settings, stamp);
                heap.put(group, ITEM, settings);
            }
            return settings;
        }

        /** Lets the environments be in a group that were set in the episode at hand, and in another one the last time. */
        private void joinGroup() {
            int stamp = values.lastStamp();
            int group = 0;
            for (int i = 0; i < environments.used && group == 0; i++) {
                int version = newestOf(environments.get(i));
                group = heap.kindOf(version) == GROUPED ? heap.noteOf(version) : 0;
            }
            group = group == 0 ? heap.make(GROUP, 0, 0, 0, 0) : group;
            for (int i = 0; i < environments.used; i++) {
                int version = newestOf(environments.get(i));
                boolean isRepeated = heap.kindOf(version) == SETTINGS && heap.kindOf(heap.at(version, NEXT)) == SETTINGS;
                if (environments.get(i) != 0 && isRepeated) {
                    setNewest(environments.get(i), heap.make(GROUPED, group, 0, version, stamp));
                }
            }
        }

        /** Settings of a group, if they came behind a member of it; otherwise what that was before. */
        private int settingsOrBefore(int settings, int member) {
            boolean isOfMember = settings != 0 && heap.at(settings, STAMP) > heap.at(member, STAMP);
            return isOfMember ? settings : heap.at(member, NEXT);
        }

        // ---- versions

        private boolean isVersion(int cell) {
            int cellKind = heap.kindOf(cell);
            return cellKind >= SETTING && cellKind <= ALL_SET;
        }

        /** The newest version of the variables of an environment; their row if they were never set. */
        int newestOf(int environment) {
            return environment == 0 ? newest.get(0) : heap.at(environment, ITEM);
        }

        private void setNewest(int environment, int version) {
            if (environment == 0) {
                newest.put(0, version);
                values.isGlobalSeen = false;
            } else {
                heap.put(environment, ITEM, version);
                heap.setNote(environment, heap.noteOf(environment) & ~SEEN);
            }
        }

        /** How many variables an environment has. */
        private int countOf(int environment) {
            if (environment == 0) {
                return SYMBOLS;
            }
            return heap.kindOf(environment) == ONE_ENVIRONMENT ? 1 : heap.at(environment, EXTRA) & COUNT_MASK;
        }

        /** Notes that there is one version more; if there are many, all variables are to be held. */
        private void note(int environment) {
            if (environment == 0) {
                length++;
                return;
            }
            heap.setNote(environment, heap.noteOf(environment) + 1);
            if ((heap.noteOf(environment) & ~SEEN) > Math.max(LEAST_LENGTH, countOf(environment))) {
                filling = environment;
                filled.used = 0;
            }
        }

        /** Lets the newest version hold all variables; a group is left for that. */
        private void hold(int environment, int row) {
            int version = newestOf(environment);
            if (heap.kindOf(version) == GROUPED) {
                int stamp = Math.max(heap.at(version, STAMP), heap.at(heap.at(version, ITEM), STAMP));
                setNewest(environment, heap.make(ALL_SET, fullAt(version), row, version, stamp));
            } else {
                heap.remake(version, ALL_SET, fullAt(heap.at(version, NEXT)), row, heap.at(version, NEXT));
            }
        }

        /** The version in which all variables are held that is the newest one, from one on; 0 if there is none. */
        private int fullAt(int version) {
            int full = version;
            for (int i = 0; i < MAX_ROW && isVersion(full) && heap.kindOf(full) != ALL_SET; i++) {
                full = heap.at(full, NEXT);
            }
            return isVersion(full) ? full : 0;
        }

        /**
         * Goes on with letting the variables of an environment be held as they are. Those that no version set since all were
         * held are looked for where that was.
         */
        void goOnFilling() {
            int count = countOf(filling);
            int masks = 0;
            int groupMasks = 0;
            int member = 0;
            int version = newestOf(filling);
            for (int i = 0; i < MAX_STEPS && isInChain(version) && heap.kindOf(version) != ALL_SET; i++) {
                int cellKind = heap.kindOf(version);
                int mask = heap.noteOf(version);
                masks |= cellKind == SETTINGS ? mask : cellKind == SETTING ? 1 << mask % MASK_BITS : 0;
                groupMasks |= cellKind == GROUP_SETTINGS ? mask : 0;
                member = cellKind == GROUPED ? version : member;
                version = before(version, member);
            }
            int row = heap.kindOf(version) == ALL_SET ? heap.at(version, ITEM) : version;
            for (int i = 0; i < MOST_LOOKED && filled.used < count; i++) {
                int place = filled.used;
                boolean isSet = ((masks >> place % MASK_BITS | groupMasks >> bitOf(filling, place)) & 1) != 0;
                int value = isSet ? valueOf(filling, place) : values.variable(filling, row, place, false);
                if (values.wanted != 0) {
                    return;
                }
                filled.add(value);
            }
            if (filled.used < count) {
                return;
            }
            hold(filling, values.plain(filled, 0, count));
            heap.setNote(filling, heap.noteOf(filling) & SEEN);
            filling = 0;
            filled.used = 0;
        }

        // ---- values

        /** The environment of a variable of code. */
        int around(int environment, int slot) {
            int around = environment;
            for (int i = slot >>> DEPTH_OUT_SHIFT; i > 0; i--) {
                around = heap.at(around, NEXT);
            }
            return around;
        }

        static int placeOf(int slot) {
            return slot >> SLOT_SHIFT & PLACE_MASK;
        }

        /**
         * What a variable is now, but for what the episode at hand set it to, if it is none that is global; 0 if it has no
         * value, or if something is wanted first.
         */
        int valueOf(int environment, int place) {
            if (environment == 0) {
                return store.globalValue(place);
            }
            int version = newestOf(environment);
            if (!isVersion(version)) {
                return values.variable(environment, version, place, false);
            }
            for (int i = 0; i < LEAST_LENGTH && heap.kindOf(version) == SETTING; i++) {
                if (heap.noteOf(version) == place) {
                    return heap.at(version, ITEM);
                }
                version = heap.at(version, NEXT);
            }
            return heap.kindOf(version) == ALL_SET
                    ? values.plainAt(heap.at(version, ITEM), place)
                    : values.knownVariable(environment, place);
        }

        /** Whether a cell is one of a chain of versions, and not the row at its end. */
        boolean isInChain(int cell) {
            int cellKind = heap.kindOf(cell);
            return cellKind >= SETTING && cellKind <= GROUP_SETTINGS && cellKind != GROUP;
        }

        /** Whether a variable may have been set in a version. */
        boolean mayBeSet(int version, int environment, int place) {
            switch (heap.kindOf(version)) {
                case SETTING:
                    return heap.noteOf(version) == place;
                case SETTINGS:
                    return (heap.noteOf(version) >> place % MASK_BITS & 1) != 0;
                case GROUP_SETTINGS:
                    return (heap.noteOf(version) >> bitOf(environment, place) & 1) != 0;
                default:
                    return heap.kindOf(version) == ALL_SET;
            }
        }

        /** What is before a version, where it is one of a group by this member. */
        int before(int version, int member) {
            boolean isGrouped = heap.kindOf(version) == GROUPED;
            int before = heap.at(version, isGrouped ? ITEM : NEXT);
            return isGrouped || heap.kindOf(version) == GROUP_SETTINGS ? settingsOrBefore(before, member) : before;
        }

        int sought(int memo, int which) {
            return memos.get(memo + which);
        }

        /** Lets nothing be noted by its time. */
        void forgetPlaces() {
            memos.fillWithZeros();
        }

        /** Where the newest version is noted, and its group, of those that are older than this time. */
        int seek(int environment, int time) {
            if (memoCollections != heap.collections) {
                memos.fillWithZeros();
                memoCollections = heap.collections;
            }
            int memo = MEMO * (environment * 0x9E3779B1 >>> MEMO_SHIFT);
            boolean isKnown = memos.get(memo) == environment + 1 && time <= memos.get(memo + 1);
            int version = isKnown ? memos.get(memo + VERSION_FOUND) : newestOf(environment);
            int member = isKnown ? memos.get(memo + MEMBER_FOUND) : 0;
            for (int i = 0; i < MAX_STEPS && isInChain(version); i++) {
                int cellKind = heap.kindOf(version);
                boolean isLater = heap.at(version, STAMP) >= time;
                if (!isLater && cellKind != GROUPED) {
                    break;
                }
                int further = cellKind == ALL_SET ? heap.noteOf(version) : 0;
                boolean isFar = further != 0 && heap.at(further, STAMP) >= time;
                int before = heap.at(version, isLater ? NEXT : ITEM);
                member = cellKind == GROUPED ? version : member;
                boolean isInGroup = cellKind == GROUP_SETTINGS || !isLater;
                version = isFar ? further : isInGroup ? settingsOrBefore(before, member) : before;
            }
            memos.put(memo, environment + 1);
            memos.put(memo + 1, time);
            memos.put(memo + VERSION_FOUND, version);
            memos.put(memo + MEMBER_FOUND, member);
            return memo;
        }
    }

    /**
     * The body of a procedure, or the program, that is evaluated at hand: the forms in it that wait for a part, and the
     * values of the parts of calls up to now. What is the last thing in the body waits for nothing.
     *
     * <p>When a part of an episode is wanted, its form is looked at again. A variable leads to another part of an earlier
     * episode, and so on, in one task; only for a test there is a task within another one. So it takes little room.
     */
    private static final class Body {
        // What is next: to evaluate the form, to take the value, to apply a procedure; anything above is an error's letter.
        static final int EVALUATE = 0;
        static final int TAKE = 1;
        static final int APPLY = 2;
        // What a task knows: the part of an episode that is looked at, how far it is; the variable that is looked for, the
        // version at hand and its group; the episode whose settings are looked through, up to a place, the form at hand in it,
        // how many tests were ahead, what was found; what the task is for; where its levels and marks begin; how many parts
        // led to this one; what a test came to.
        private static final int EPISODE = 0;
        private static final int PLACE = 1;
        private static final int STAGE = 2;
        private static final int TARGET = 3;
        private static final int TARGET_PLACE = 4;
        private static final int VERSION = 5;
        private static final int MEMBER = 6;
        private static final int SCANNED = 7;
        private static final int SCAN_LIMIT = 8;
        private static final int SCAN_FORM = 9;
        private static final int SCAN_PLACE = 10;
        private static final int TESTS_SEEN = 11;
        private static final int LAST = 12;
        private static final int KEY = 13;
        private static final int KEY_PLACE = 14;
        private static final int BOTTOM = 15;
        private static final int FIRST_MARK = 16;
        private static final int LINKS = 17;
        private static final int RESULT = 18;
        private static final int TASK = 19;
        // Its stages.
        private static final int PART = 0;
        private static final int CHOICE = 1;
        private static final int SEARCH = 2;
        private static final int SCAN = 3;
        private static final int SCAN_CHOICE = 4;
        private static final int SAVED = 4;
        private static final int MOST_TASKS = 1000;
        private static final int MAX_MARKS = 65536;
        private static final int MOST_CELLS = 2; // that a few values may take
        private static final int LEAST_PARTS = 64; // that lead from one to the next, until arguments are held
        private static final int MAX_PENDING = 65536;

        private final Heap heap;
        private final Store store;
        private final Values values;
        private final Variables variables;
        private int program; // that is evaluated
        // For each form that waits: its slot, the place in the image of that of the part at hand, at what height its values
        // begin.
        private final Row nodes;
        private final Row cursors;
        private final Row heights;
        private int level;
        private final Row stack; // used as far as there are values
        int below; // how many values wait below them
        int start; // at what height the procedure to be applied is, with its arguments above
        int mode;
        int value;
        int environment;
        private int form;
        private final Row tasks; // behind what the heap must see of the body
        private final Row levels; // of tasks: slot and cursor of each form that waits
        private final Row marks; // parts on the way to one, which come to the same
        private final Row pending; // what is still to be looked for behind what the tasks are for

        Body(Heap heap, Store store, Values values, Variables variables) {
            this.heap = heap;
            this.store = store;
            this.values = values;
            this.variables = variables;
            nodes = new Row(MAX_LEVEL, 2 * MAX_LEVEL);
            cursors = new Row(MAX_LEVEL, 2 * MAX_LEVEL);
            heights = new Row(MAX_LEVEL, 2 * MAX_LEVEL);
            stack = values.stack;
            tasks = heap.newRoots(SAVED, SAVED + TASK * (MOST_TASKS + 2));
            levels = new Row(0, 2 * MAX_LEVEL * (MOST_TASKS + 2));
            marks = heap.newRoots(0, MAX_MARKS);
            pending = heap.newRoots(0, MAX_PENDING);
            reset();
        }

        private void reset() {
            program = 0;
            level = -1;
            stack.used = 0;
            below = 0;
            start = 0;
            values.forgetBody();
        }

        /** Begins to evaluate a form of a program by itself. */
        void startWith(int newProgram, int slot, int around) {
            reset();
            program = newProgram;
            environment = around;
            form = slot;
            mode = EVALUATE;
            values.beginBody(program, slot);
        }

        /** Ends with a value, or 0. */
        void end(int last) {
            reset();
            environment = 0;
            form = 0;
            value = last;
            mode = TAKE;
        }

        boolean isDone() {
            return level < 0;
        }

        /** Lets the heap see what is in use. */
        void save() {
            tasks.put(0, value);
            tasks.put(1, environment);
            tasks.put(2, Math.max(0, values.wanted));
        }

        /** Lets a value be what the form at hand came to. */
        void give(int answer) {
            value = answer;
            mode = TAKE;
        }

        /** Lets a value be what the call came to that was to be applied: an episode begins with it. */
        void giveForCall(int answer) {
            cutTo(start);
            give(answer);
            if (level >= 0) {
                values.beginEpisode(start, pathHere(), answer);
            }
        }

        /** Lets a procedure be applied without arguments, as long as none are pushed. */
        void applyLater(int procedure) {
            reset();
            environment = 0;
            stack.add(procedure);
            mode = APPLY;
        }

        int countOfArguments() {
            return height() - start - 1;
        }

        void push(int argument) {
            stack.add(argument);
        }

        // ---- evaluation

        /** Whether the image of the program is there, if it is looked at next; otherwise it is wanted. */
        boolean hasImage() {
            boolean isLookedAt = mode == EVALUATE ? (form & TAG_MASK) <= OTHER : mode == TAKE && level >= 0;
            boolean isThere = !isLookedAt || store.isLoaded(program);
            values.wanted = isThere ? values.wanted : -program;
            return isThere;
        }

        /** Evaluates the form at hand; if something is wanted for it, nothing is done. */
        void evaluate() {
            int content = form >>> SLOT_SHIFT;
            int found;
            switch (form & TAG_MASK) {
                case CALL:
                case BRANCH:
                    open(form, store.word(program, content));
                    return;
                case SEQUENCE:
                    int next = store.word(program, content);
                    if (store.word(program, content + 1) == 0) {
                        form = next;
                    } else {
                        open(form, next);
                    }
                    return;
                case LOCAL:
                    if (isDropped()) {
                        found = NOTHING_CELL;
                        break;
                    }
                    int around = variables.around(environment, form);
                    int place = Variables.placeOf(form);
                    found = variables.justSet(around, place);
                    found = found == Values.NONE ? variables.valueOf(around, place) : found;
                    break;
                case GLOBAL:
                    found = store.globalValue(content);
                    break;
                case OTHER:
                    evaluateOther(content);
                    return;
                default:
                    found = content;
            }
            if (found != 0) {
                give(found);
            } else if (values.wanted == 0) {
                mode = 'u';
            }
        }

        /** Whether the value of the form at hand is dropped, as it is a part of a sequence, and not the last one. */
        private boolean isDropped() {
            return level >= 0 && (nodes.get(level) & TAG_MASK) == SEQUENCE;
        }

        private void evaluateOther(int node) {
            int info = store.word(program, node + 1);
            switch (store.word(program, node)) {
                case LAMBDA:
                    int address = program << OFFSET_BITS | node;
                    boolean isMade = !isDropped();
                    give(isMade ? heap.make(CLOSURE, info, address, environment, values.lastStamp()) : NOTHING_CELL);
                    break;
                case QUOTE:
                    give(heap.make(QUOTED, 0, program << OFFSET_BITS | info, 0, 0));
                    break;
                case SYNTAX:
                    store.define(info, MACRO, store.newRules());
                    variables.set(0, info, 0);
                    give(NOTHING_CELL);
                    break;
                default:
                    open(form, store.word(program, node + 2));
            }
        }

        private int height() {
            return below + stack.used;
        }

        /** Lets nothing be above a height. */
        private void cutTo(int height) {
            stack.used = Math.max(0, height - below);
            below = Math.min(below, height);
        }

        /** The value at a height; 0 if it is wanted first. */
        int valueAt(int height) {
            return height >= below ? stack.get(height - below) : values.look(values.base(), height, placeAt(height));
        }

        /** Where the part of a call is in the code whose value is at a height. */
        private int placeAt(int height) {
            for (int i = Math.min(level + 1, MAX_LEVEL); i >= 0; i--) {
                if ((nodes.get(i) & TAG_MASK) == CALL && heights.get(i) <= height) {
                    return (nodes.get(i) >>> SLOT_SHIFT) + height - heights.get(i);
                }
            }
            return 0;
        }

        /** Lets a form wait for its first part. */
        private void open(int slot, int part) {
            level++;
            nodes.put(level, slot);
            cursors.put(level, slot >>> SLOT_SHIFT);
            heights.put(level, height());
            form = part;
        }

        /** Takes the value for the form that waits for it. */
        void take() {
            int place = cursors.get(level);
            switch (nodes.get(level) & TAG_MASK) {
                case CALL:
                    stack.add(value);
                    if (!isNextBegun(place + 1)) {
                        start = heights.get(level);
                        level--;
                        mode = APPLY;
                    }
                    break;
                case BRANCH:
                    level--;
                    values.noteTest(value != FALSE_CELL);
                    form = store.word(program, value == FALSE_CELL ? place + 2 : place + 1);
                    mode = form == 0 ? TAKE : EVALUATE;
                    value = form == 0 ? NOTHING_CELL : value;
                    break;
                case SEQUENCE:
                    // What is the last part of it takes its place.
                    level -= isNextBegun(place + 1) && store.word(program, place + 2) != 0 ? 0 : 1;
                    break;
                default:
                    assign(store.word(program, place), store.word(program, place + 1));
            }
        }

        /** Goes on to the part of a form that has its slot at a place, if there is one. */
        private boolean isNextBegun(int place) {
            int next = store.word(program, place);
            if (next != 0) {
                cursors.put(level, place);
                form = next;
                mode = EVALUATE;
            }
            return next != 0;
        }

        private void assign(int kind, int target) {
            if (kind == SET_GLOBAL && store.globalValue(target) == 0) {
                mode = 'u';
                return;
            }
            if (kind == SET_LOCAL) {
                variables.set(variables.around(environment, target), Variables.placeOf(target), value);
            } else {
                store.define(target, VARIABLE, value);
                variables.set(0, target, value);
            }
            level--;
            value = NOTHING_CELL;
        }

        // ---- frames

        /** Where the parts of the call are in the code that is to be applied. */
        int placeOfCall() {
            return nodes.get(level + 1) >>> SLOT_SHIFT;
        }

        /**
         * The row of the arguments of the call that is to be applied, or just the episode in which they came about; those for
         * the rest are behind the others.
         */
        int rowOfArguments(int parameters, int count, boolean hasRest) {
            int first = start + 1 - below;
            int extra = count - parameters;
            values.built = 0;
            if (parameters == 0 && !hasRest) {
                return 0;
            }
            // What is not applied by code has few arguments, and no episode in which they came about.
            int most = values.isLastMade() || isEpisodeKept() ? 0 : MOST_CELLS;
            boolean isPlain = values.countOfEpisodes() == 0
                    || first >= 0 && (values.areFew(first, count, most) || isHeld(count));
            if (isPlain && hasRest && extra <= 1) {
                int rest = extra == 0 ? EMPTY_CELL : values.pairOf(stack.get(first + parameters), EMPTY_CELL);
                stack.put(first + parameters, rest);
                return values.plain(stack, first, parameters + 1);
            }
            int row;
            if (isPlain) {
                row = values.plain(stack, first, count);
            } else if (values.beginOfLast() <= start + 1) {
                row = values.lastEpisode(environment);
            } else {
                values.built = values.rowUpTo(start + 1 + count, below, environment);
                row = values.built;
            }
            if (!hasRest && (isPlain || values.isEpisode(row))) {
                return row;
            }
            int note = count << COUNT_BITS + 1 | (hasRest ? HAS_REST : 0) | parameters;
            return heap.make(ARGUMENTS, note, row, isPlain ? 0 : placeOfCall(), start);
        }

        /** Whether the episode at hand will be made for what waits, or for many arguments. */
        boolean isEpisodeKept() {
            return level >= 0 && start - values.beginOfLast() > MOST_CELLS + 1
                    || values.countOfEpisodes() > 0 && countOfArguments() > MOST_CELLS + 1;
        }

        /** Whether so many arguments are held as they are: some are, now and then, so that no chain of parts is too long. */
        private boolean isHeld(int count) {
            return (values.lastStamp() * 0x9E3779B1 >>> 1) % (LEAST_PARTS + count / 2) == 0;
        }

        /** Leaves the body for an application: the frames ahead of which is what is still to be done in it. */
        int leave(int frames) {
            if (level < 0) {
                return frames;
            }
            int row = values.built;
            if (row == 0 && start > 0) {
                row = values.rowUpTo(start, below, environment);
            }
            cutTo(start);
            int frame = heap.make(BODY_FRAME, pathHere(), row, frames, environment);
            reset();
            return frame;
        }

        private int pathHere() {
            int slot = nodes.get(level);
            return heap.makeShared(PATH, program, slot, cursors.get(level) - (slot >>> SLOT_SHIFT), height());
        }

        /** Whether the image is there in which a path lies; otherwise it is wanted. */
        boolean canGoTo(int path) {
            boolean isThere = path == 0 || store.isLoaded(heap.noteOf(path));
            values.wanted = isThere ? values.wanted : -heap.noteOf(path);
            return isThere;
        }

        /** Goes on with the body of a frame, where the value at hand is waited for. */
        void resume(int frame) {
            int path = heap.noteOf(frame);
            reset();
            environment = heap.at(frame, EXTRA);
            goTo(path);
            values.resumeBody(heap.at(frame, ITEM), below, path, value);
        }

        /** Lets the forms of a path wait, the innermost one for the value at hand. */
        private void goTo(int path) {
            program = heap.noteOf(path);
            below = heap.at(path, EXTRA);
            int slot = heap.at(path, ITEM);
            int index = heap.at(path, NEXT);
            int height = below;
            for (int i = 0; i < MAX_LEVEL && slot != 0; i++) {
                int place = slot >>> SLOT_SHIFT;
                if (isWaiting(slot & TAG_MASK, place, index)) {
                    height -= (slot & TAG_MASK) == CALL ? index : 0;
                    level++;
                    nodes.put(level, slot);
                    cursors.put(level, place + index);
                    heights.put(level, height);
                }
                slot = store.word(program, place - 2);
                index = store.word(program, place - 1);
            }
            for (int i = 0; 2 * i < level; i++) {
                swap(nodes, i, level - i);
                swap(cursors, i, level - i);
                swap(heights, i, level - i);
            }
            mode = TAKE;
        }

        private static void swap(Row row, int one, int other) {
            int number = row.get(one);
            row.put(one, row.get(other));
            row.put(other, number);
        }

        /** Whether a form waits for one of its parts: the last part of a sequence, and what is chosen, take its place. */
        private boolean isWaiting(int tag, int place, int index) {
            switch (tag) {
                case BRANCH:
                    return index == 0;
                case SEQUENCE:
                    return store.word(this.program, place + index + 1) != 0;
                default:
                    return true;
            }
        }

        // ---- parts of episodes that are looked at again

        boolean isFinding() {
            return tasks.used > SAVED;
        }

        private int at(int which) {
            return tasks.get(tasks.used - TASK + which);
        }

        private void note(int which, int number) {
            tasks.put(tasks.used - TASK + which, number);
        }

        /**
         * Looks for what is wanted; it may be that a program is wanted for it, and it is gone on with behind that. Whether
         * there was room for it.
         */
        boolean find(int reserve) {
            boolean isRight = true;
            heap.growKnown();
            if (values.wanted > 0) {
                beginTask(values.wanted, values.wantedPlace);
                values.wanted = 0;
            }
            for (int i = 0; i < MAX_STEPS && isRight && tasks.used > SAVED && values.wanted == 0; i++) {
                if (heap.freeCells < STEP) {
                    save();
                    isRight = heap.makeRoom(STEP, reserve);
                }
                int found = 0;
                if (isRight) {
                    switch (at(STAGE)) {
                        case PART:
                            found = lookAtPart();
                            break;
                        case SEARCH:
                            found = searchOn();
                            break;
                        case SCAN:
                            found = scanOn();
                            break;
                        default:
                            found = choose();
                    }
                }
                if (found != 0) {
                    endTask(found);
                    heap.growKnown();
                }
            }
            save();
            if (!isRight) {
                dropTasks();
            }
            return isRight;
        }

        void dropTasks() {
            tasks.used = SAVED;
            levels.used = 0;
            marks.used = 0;
            pending.used = 0;
            values.wanted = 0;
        }

        /** Begins to look for a part of an episode, or for a variable of an environment. */
        private void beginTask(int key, int place) {
            if (tasks.used >= SAVED + TASK * MOST_TASKS) {
                // This one is looked for first, by itself; then that for which it was wanted, from the beginning.
                pending.add(tasks.get(SAVED + KEY));
                pending.add(tasks.get(SAVED + KEY_PLACE));
                tasks.used = SAVED;
                levels.used = 0;
                marks.used = 0;
            }
            for (int i = 0; i < TASK; i++) {
                tasks.put(tasks.used + i, 0);
            }
            tasks.used += TASK;
            note(KEY, key);
            note(KEY_PLACE, place);
            note(BOTTOM, levels.used);
            note(FIRST_MARK, marks.used);
            if (place < 0) {
                note(VERSION, variables.newestOf(key));
                note(TARGET, key);
                note(TARGET_PLACE, ~place);
                note(STAGE, SEARCH);
            } else {
                note(EPISODE, key);
                note(PLACE, place);
            }
        }

        private void endTask(int found) {
            int key = at(KEY);
            int place = at(KEY_PLACE);
            int first = at(FIRST_MARK);
            for (int i = first; i + 1 < marks.used; i += 2) {
                heap.know(marks.get(i), marks.get(i + 1), found);
            }
            marks.used = first;
            levels.used = at(BOTTOM);
            tasks.used -= TASK;
            if (tasks.used > SAVED) {
                note(RESULT, found);
            }
            heap.know(key, place, found);
            if (tasks.used == SAVED && pending.used >= 2) {
                pending.used -= 2;
                beginTask(pending.get(pending.used), pending.get(pending.used + 1));
            }
        }

        /** Lets the task look at another part, which comes to the same. */
        private void follow(int episode, int place) {
            note(EPISODE, episode);
            note(PLACE, place);
            note(STAGE, PART);
            int links = at(LINKS) + 1;
            note(LINKS, links);
            if ((links & links - 1) == 0) {
                marks.add(episode);
                marks.add(place);
            }
        }

        /** What the part at hand came to; 0 if it is not known yet. */
        private int lookAtPart() {
            int episode = at(EPISODE);
            int place = at(PLACE);
            int found = values.simplePart(episode, place);
            if (found != 0 || values.wanted != 0) {
                return found;
            }
            int slot = store.word(values.programOf(episode), place);
            int content = slot >>> SLOT_SHIFT;
            switch (slot & TAG_MASK) {
                case LOCAL:
                    beginSearch(variables.around(heap.at(episode, AROUND), slot), Variables.placeOf(slot));
                    break;
                case GLOBAL:
                    beginSearch(0, content);
                    break;
                case SEQUENCE:
                    int last = content;
                    for (int i = 0; i < MAX_ROW && store.word(values.programOf(episode), last + 1) != 0; i++) {
                        last++;
                    }
                    note(PLACE, last);
                    break;
                case BRANCH:
                    int chosen = values.indexWithin(episode, content);
                    if (chosen > 0) {
                        note(PLACE, content + chosen);
                    } else if (values.testOf(episode, 0) >= 0) {
                        int known = values.knownOnWay(episode, -1, 0, -content);
                        note(PLACE, known > 0 ? known : place);
                        if (known <= 0) {
                            beginScan(episode, -content);
                        } else if (store.word(values.programOf(episode), known) == 0) {
                            return NOTHING_CELL;
                        }
                    } else {
                        beginTest(CHOICE, episode, content);
                    }
                    break;
                default:
                    return NOTHING_CELL;
            }
            return 0;
        }

        /** Goes on to the stage behind a test, which is looked at by a task of its own if it is not known. */
        private void beginTest(int stage, int episode, int place) {
            int found = values.simplePart(episode, place);
            if (values.wanted != 0) {
                return;
            }
            note(STAGE, stage);
            note(RESULT, found);
            if (found == 0) {
                beginTask(episode, place);
            }
        }

        /** Goes on behind a test, by what it came to. */
        private int choose() {
            boolean isScan = at(STAGE) == SCAN_CHOICE;
            int looked = at(isScan ? SCANNED : EPISODE);
            int looking = values.programOf(looked);
            if (!store.isLoaded(looking)) {
                values.wanted = -looking;
                return 0;
            }
            int slot = isScan ? levels.get(levels.used - 2) : store.word(looking, at(PLACE));
            int place = (slot >>> SLOT_SHIFT) + (at(RESULT) == FALSE_CELL ? 2 : 1);
            int chosen = store.word(looking, place);
            note(TESTS_SEEN, at(TESTS_SEEN) + 1);
            if (isScan) {
                levels.used -= 2;
                note(SCAN_FORM, chosen);
                note(SCAN_PLACE, place);
                note(STAGE, SCAN);
                return 0;
            }
            note(PLACE, place);
            note(STAGE, PART);
            return chosen == 0 ? NOTHING_CELL : 0;
        }

        /** Begins to look for a variable, as it was in the episode at hand. */
        private void beginSearch(int target, int place) {
            int memo = variables.seek(target, heap.at(at(EPISODE), STAMP) + 1);
            note(TARGET, target);
            note(TARGET_PLACE, place);
            note(VERSION, variables.sought(memo, Variables.VERSION_FOUND));
            note(MEMBER, variables.sought(memo, Variables.MEMBER_FOUND));
            note(SCANNED, 0);
            note(STAGE, SEARCH);
        }

        /** What the variable was that is looked for; 0 if it is not known yet. */
        private int searchOn() {
            int episode = at(EPISODE);
            int target = at(TARGET);
            int place = at(TARGET_PLACE);
            for (int i = 0; i < MAX_STEPS && variables.isInChain(at(VERSION)); i++) {
                int version = at(VERSION);
                int cellKind = heap.kindOf(version);
                boolean isOwn = episode != 0 && cellKind != GROUPED && heap.at(version, STAMP) == heap.at(episode, STAMP);
                boolean isSeen = (!isOwn || at(SCANNED) != episode) && variables.mayBeSet(version, target, place);
                if (isSeen && !isOwn && (cellKind == SETTING || cellKind == ALL_SET)) {
                    int row = heap.at(version, ITEM);
                    int then = cellKind == SETTING ? row : values.plainAt(row, place);
                    return then == 0 ? NOTHING_CELL : then;
                }
                int looked = !isSeen ? 0 : isOwn ? episode : heap.at(version, ITEM);
                int limit = isOwn ? at(PLACE) : 0;
                int set = isSeen ? values.knownOnWay(looked, target, place, limit) : Values.NONE;
                if (set == 0) {
                    beginScan(looked, limit);
                    return 0;
                }
                if (set > 0) {
                    follow(looked, set);
                    return 0;
                }
                note(SCANNED, isOwn && isSeen ? episode : at(SCANNED));
                goBack();
            }
            int found = at(VERSION) == 0 ? NOTHING_CELL : values.variable(target, at(VERSION), place, false);
            if (values.wanted > 0) {
                follow(values.wanted, values.wantedPlace);
                values.wanted = 0;
            }
            return found;
        }

        /** Goes back to the version before. */
        private void goBack() {
            int version = at(VERSION);
            if (heap.kindOf(version) == GROUPED) {
                note(MEMBER, version);
            }
            note(VERSION, variables.before(version, at(MEMBER)));
        }

        /** Begins to look through an episode, up to a place or its end, for what it set the variable to at last. */
        private void beginScan(int episode, int limit) {
            note(SCANNED, episode);
            note(SCAN_LIMIT, limit);
            note(SCAN_FORM, heap.kindOf(episode) == BEGUN ? heap.at(episode, ITEM) : 0);
            note(SCAN_PLACE, 0);
            note(LAST, 0);
            note(TESTS_SEEN, 0);
            note(STAGE, SCAN);
            levels.used = at(BOTTOM);
            int looking = values.programOf(episode);
            int path = heap.kindOf(episode) == RESUMED ? heap.noteOf(episode) : 0;
            if (!store.isLoaded(looking)) {
                values.wanted = -looking;
                note(SCANNED, 0);
                note(STAGE, SEARCH);
                return;
            }
            int slot = heap.at(path, ITEM);
            int index = heap.at(path, NEXT);
            for (int i = 0; i < MAX_LEVEL && slot != 0; i++) {
                int place = slot >>> SLOT_SHIFT;
                int tag = slot & TAG_MASK;
                boolean isLast = tag == SEQUENCE && store.word(looking, place + index + 1) == 0;
                if (!isLast && (tag != BRANCH || index == 0)) {
                    levels.add(slot);
                    levels.add(place + index);
                }
                slot = store.word(looking, place - 2);
                index = store.word(looking, place - 1);
            }
            int first = at(BOTTOM);
            for (int i = 0; 4 * i < levels.used - first - 2; i++) {
                swap(levels, first + 2 * i, levels.used - 2 - 2 * i);
                swap(levels, first + 2 * i + 1, levels.used - 1 - 2 * i);
            }
        }

        /** Goes on with looking through an episode, up to a test that is not known, or the end. */
        private int scanOn() {
            int looked = at(SCANNED);
            int looking = values.programOf(looked);
            if (!store.isLoaded(looking)) {
                values.wanted = -looking;
                return 0;
            }
            boolean isOn = true;
            for (int i = 0; i < MAX_STEPS && isOn; i++) {
                int slot = at(SCAN_FORM);
                if (slot != 0) {
                    isOn = !isWithin(looking, slot, at(SCAN_PLACE), at(SCAN_LIMIT));
                    note(SCAN_FORM, 0);
                    if (isOn && (slot & ACTIVE) != 0) {
                        scanInto(looking, slot);
                    }
                } else if (levels.used <= at(BOTTOM)) {
                    isOn = false;
                } else if ((levels.get(levels.used - 2) & TAG_MASK) == BRANCH) {
                    int test = levels.get(levels.used - 2) >>> SLOT_SHIFT;
                    int holds = values.testOf(looked, at(TESTS_SEEN));
                    if (holds < 0) {
                        beginTest(SCAN_CHOICE, looked, test);
                        return 0;
                    }
                    note(TESTS_SEEN, at(TESTS_SEEN) + 1);
                    int chosen = test + 2 - holds;
                    if (at(SCAN_LIMIT) == -test) {
                        values.knowOnWay(looked, -1, 0, -test, chosen);
                        levels.used = at(BOTTOM);
                        note(PLACE, chosen);
                        note(STAGE, PART);
                        return store.word(looking, chosen) == 0 ? NOTHING_CELL : 0;
                    }
                    levels.used -= 2;
                    note(SCAN_FORM, store.word(looking, chosen));
                    note(SCAN_PLACE, chosen);
                } else {
                    isOn = scanBehind(looked, looking);
                }
            }
            levels.used = at(BOTTOM);
            note(STAGE, SEARCH);
            if (at(SCAN_LIMIT) < 0) {
                return NOTHING_CELL;
            }
            int set = at(LAST) == 0 ? Values.NONE : at(LAST);
            values.knowOnWay(looked, at(TARGET), at(TARGET_PLACE), at(SCAN_LIMIT), set);
            if (at(LAST) != 0) {
                follow(looked, at(LAST));
            } else if (looked != at(EPISODE)) {
                goBack();
            }
            return 0;
        }

        /**
         * Whether a place is that of a form, or in it, if it is a sequence that is not looked into. What is in a form is ahead
         * of its parts in the image, and behind what is in the forms ahead of it, which have been looked through.
         */
        private boolean isWithin(int looking, int slot, int formPlace, int place) {
            int content = slot >>> SLOT_SHIFT;
            int tag = slot & TAG_MASK;
            if (place <= 0 || formPlace == place || (slot & ACTIVE) != 0 || tag != SEQUENCE) {
                return place > 0 && formPlace == place;
            }
            int part = content;
            for (int i = 0; i < MAX_ROW && part < place && store.word(looking, part) != 0; i++) {
                part++;
            }
            return place <= part;
        }

        private boolean isPassed(int looking, int slot, int formPlace, int limit) {
            return (slot & ACTIVE) == 0 && !isWithin(looking, slot, formPlace, limit);
        }

        private void scanInto(int looking, int slot) {
            boolean isSetting = (slot & TAG_MASK) == OTHER;
            int part = (slot >>> SLOT_SHIFT) + (isSetting ? 2 : 0);
            boolean isOne = (slot & TAG_MASK) == SEQUENCE && store.word(looking, part + 1) == 0;
            if (!isOne) {
                levels.add(slot);
                levels.add(isSetting ? part - 2 : part);
            }
            note(SCAN_FORM, store.word(looking, part));
            note(SCAN_PLACE, part);
        }

        /** Goes on behind a part of a call, a sequence or a setting; whether that was not the last one of the episode. */
        private boolean scanBehind(int looked, int looking) {
            int slot = levels.get(levels.used - 2);
            int place = levels.get(levels.used - 1) + 1;
            if ((slot & TAG_MASK) == OTHER) {
                int kind = store.word(looking, place - 1);
                int set = store.word(looking, place);
                boolean isLocal = kind == SET_LOCAL;
                int target = isLocal ? variables.around(heap.at(looked, AROUND), set) : 0;
                boolean isIt = target == at(TARGET) && (isLocal ? Variables.placeOf(set) : set) == at(TARGET_PLACE);
                note(LAST, isIt ? place + 1 : at(LAST));
                levels.used -= 2;
                return true;
            }
            boolean isCall = (slot & TAG_MASK) == CALL;
            int next = store.word(looking, place);
            int limit = at(SCAN_LIMIT);
            for (int i = 0; i < MAX_ROW && isCall && next != 0 && isPassed(looking, next, place, limit); i++) {
                place++;
                next = store.word(looking, place);
            }
            levels.put(levels.used - 1, place);
            if (!isCall && store.word(looking, place + 1) == 0) {
                levels.used -= 2;
            }
            note(SCAN_FORM, next);
            note(SCAN_PLACE, place);
            return next != 0;
        }
    }

    /** The run at hand: procedures are applied, and what is still to be done behind a body is a chain of frames. */
    private static final class Machine {
        // What is counted, of all runs.
        static final int APPLICATIONS = 0;
        static final int APPLICATIONS_OF_ENDED = 1;
        static final int EXPANSIONS = 2;
        static final int ENTERED = 3;
        static final int LEFT = 4;
        static final int JUMPS = 5;
        static final int ENDED = 6;
        static final int ENDED_WITH_VALUE = 7;
        static final int ABANDONED = 8; // winds that were entered when a run ended with an error or another one was begun
        private static final int APPLICATIONS_OF_RUN = 9;
        private static final int TALLIES = 10;
        private static final byte[] ARGUMENTS = {2, 2, 2, 2, 2, 2, 2, 1, 1, 1, 1, 2, 1, 3, 2, 1, 2, 1, 2, 1};
        private static final int PROCEDURE = 3; // behind the arguments of a primitive
        private static final int ANSWER = 4; // of first and rest
        private static final int LENGTH = 5; // of the list that is applied to; -1 if it is none
        private static final int FIRST_SYMBOL = 17;
        private static final int REST_SYMBOL = 18;
        private static final int FIRST_CONTROL = 22;
        private static final int APPLY_SYMBOL = 24;
        private static final int NOT_SYMBOL = 25;
        private static final int REGISTERS = 5;
        private static final int ENTERING = 1;
        private static final int CELLS_OF_EPISODE = 6;
        private static final int CELLS_OF_SETTING = 4;

        private final Heap heap;
        private final Values values;
        private final Variables variables;
        private final Body body;
        private final long[] tallies;
        private final Row saved;
        private final Row arguments; // of a primitive, the procedure, and what first comes to
        private int due; // behind an application, when the body is left: the symbol of a primitive, or ENTERING
        private int inner; // the environment of the body that is then entered
        private char status; // 0 ahead of the first program, 'r', 'v', or the letter of an error
        private int result;
        private int frames;
        private int list; // the arguments, if they are the parts of a list; otherwise 0
        private int topWind;
        private int topHandler;
        private int fuel;
        private int found; // of the procedure and the arguments, for what is applied next

        Machine(Heap heap, Values values, Variables variables, Body body) {
            this.heap = heap;
            this.values = values;
            this.variables = variables;
            this.body = body;
            tallies = new long[TALLIES];
            saved = heap.newRoots(REGISTERS, REGISTERS);
            arguments = heap.newRoots(LENGTH + 1, LENGTH + 1);
        }

        boolean isBegun() {
            return status != 0;
        }

        char stateNow() {
            return status == 0 || status == 'r' || status == 'v' ? status : 'e';
        }

        /** The letter of the error with which the run ended. */
        char letter() {
            return status;
        }

        /** The value with which the run ended. */
        int result() {
            return result;
        }

        long tally(int which) {
            return which >= 0 && which < tallies.length ? tallies[which] : 0;
        }

        void count(int which, long times) {
            if (which >= 0 && which < tallies.length) {
                tallies[which] += times;
            }
        }

        private int depthOf(int wind) {
            return heap.at(heap.at(wind, ITEM), EXTRA);
        }

        int countOfWinds() {
            return depthOf(topWind);
        }

        int countOfHandlers() {
            return heap.at(topHandler, EXTRA);
        }

        /** Gives up what there was of an earlier run. */
        void stop() {
            tallies[ABANDONED] += countOfWinds();
            variables.commit(body.environment, true, false, false);
            giveUp();
            save();
        }

        /** Begins with this program; if it has no slot, it is wrong, and ends at once. */
        char start(int program, int slot, char wrong) {
            tallies[APPLICATIONS_OF_RUN] = 0;
            status = 'r';
            body.startWith(program, slot, 0);
            if (slot == 0) {
                fail(wrong);
            }
            save();
            return stateNow();
        }

        /** Lets there be so many applications. */
        void refuel(int units) {
            heap.calls++;
            fuel = units;
            if (values.areStampsLarge()) {
                values.renumber();
                variables.forgetPlaces();
            }
        }

        /** Goes on with the run; the number of a program that must be expanded for it first, or 0 at the end. */
        int goOn() {
            for (int i = 0; i < MAX_STEPS && status == 'r' && (body.mode != Body.APPLY || fuel > 0); i++) {
                boolean hasRoom = hasRoom();
                if (hasRoom && (values.wanted < 0 || values.wanted == 0 && !body.isFinding() && !body.hasImage())) {
                    save();
                    return -values.wanted;
                }
                if (hasRoom && (values.wanted != 0 || body.isFinding())) {
                    save();
                    hasRoom = body.find(RESERVE);
                } else if (hasRoom && variables.filling != 0) {
                    variables.goOnFilling();
                } else if (hasRoom && body.mode == Body.EVALUATE) {
                    body.evaluate();
                } else if (hasRoom && body.mode == Body.TAKE && !body.isDone()) {
                    body.take();
                } else if (hasRoom && body.mode == Body.TAKE && canGoOn()) {
                    variables.commit(body.environment, true, true, false);
                    if (frames == 0) {
                        finish();
                    } else {
                        giveToFrame(frames);
                    }
                } else if (hasRoom && body.mode == Body.APPLY && isReady()) {
                    variables.commit(body.environment, true, false, body.isEpisodeKept());
                    fuel--;
                    tallies[APPLICATIONS]++;
                    tallies[APPLICATIONS_OF_RUN]++;
                    int procedure = arguments.get(PROCEDURE);
                    found = 0;
                    due = 0;
                    if (heap.kindOf(procedure) == CLOSURE) {
                        bind(procedure);
                    } else if (heap.kindOf(procedure) == PRIMITIVE) {
                        applyPrimitive(heap.at(procedure, AMOUNT));
                    } else if (heap.kindOf(procedure) == CONTINUATION && argumentCount() == 1) {
                        jump(procedure, arguments.get(0), 0);
                    } else {
                        body.mode = heap.kindOf(procedure) == CONTINUATION ? 'a' : 'n';
                    }
                    list = 0;
                    if (due != 0) {
                        frames = body.leave(frames);
                        goInto(procedure);
                    }
                }
                if (!hasRoom || body.mode > Body.APPLY) {
                    variables.commit(body.environment, false, false, false);
                    fail(hasRoom ? (char) body.mode : 'o');
                }
            }
            save();
            return 0;
        }

        /** Goes on behind the expansion of a program, which may have found no room. */
        void takeProgram(boolean isThere) {
            values.wanted = 0;
            if (!isThere) {
                body.dropTasks();
                variables.commit(body.environment, false, false, false);
                fail('o');
            }
        }

        /** Whether there is room for the next step. */
        private boolean hasRoom() {
            int needed = STEP
                    + CELLS_OF_EPISODE * values.countOfEpisodes()
                    + CELLS_OF_SETTING * variables.countOfSettings();
            heap.growKnown();
            if (heap.freeCells >= needed) {
                return true;
            }
            save();
            return heap.makeRoom(needed, RESERVE);
        }

        /** Lets the heap see what is in use. */
        private void save() {
            body.save();
            saved.put(0, frames);
            saved.put(1, topWind);
            saved.put(2, topHandler);
            saved.put(3, list);
            saved.put(4, result);
        }

        private void giveUp() {
            body.end(0);
            found = 0;
            variables.forgetAll();
            frames = 0;
            list = 0;
            topWind = 0;
            topHandler = 0;
            result = 0;
        }

        private void fail(char errorLetter) {
            tallies[ABANDONED] += countOfWinds();
            giveUp();
            end(errorLetter);
        }

        private void finish() {
            int last = body.value;
            giveUp();
            result = last;
            end('v');
            tallies[ENDED_WITH_VALUE]++;
        }

        private void end(char how) {
            status = how;
            tallies[ENDED]++;
            tallies[APPLICATIONS_OF_ENDED] += tallies[APPLICATIONS_OF_RUN];
        }

        private void push(int frameKind, int subject, int extra) {
            frames = heap.make(frameKind, 0, subject, frames, extra);
        }

        // ---- frames

        /** Whether all is at hand to go on with what is still to be done. */
        private boolean canGoOn() {
            return heap.kindOf(frames) != BODY_FRAME || body.canGoTo(heap.noteOf(frames));
        }

        private void giveToFrame(int frame) {
            frames = heap.at(frame, NEXT);
            int subject = heap.at(frame, ITEM);
            int extra = heap.at(frame, EXTRA);
            switch (heap.kindOf(frame)) {
                case BODY_FRAME:
                    body.resume(frame);
                    break;
                case HANDLER_FRAME:
                    topHandler = subject;
                    break;
                case BEFORE_FRAME:
                    enter(subject);
                    push(DURING_FRAME, subject, 0);
                    body.applyLater(extra);
                    break;
                case DURING_FRAME:
                    push(AFTER_FRAME, body.value, 0);
                    leaveWind(subject);
                    break;
                case AFTER_FRAME:
                    body.value = subject;
                    break;
                case JUMP_FRAME:
                    goOnWithJump(subject, extra);
                    break;
                case ENTER_FRAME:
                    enter(extra);
                    goOnWithJump(subject, extra);
                    break;
                default:
                    // A prompt that is come back to lets the value through.
                    break;
            }
        }

        private void enter(int wind) {
            topWind = wind;
            tallies[ENTERED]++;
        }

        /** Leaves the innermost wind, and applies its after. */
        private void leaveWind(int wind) {
            topWind = heap.at(wind, NEXT);
            tallies[LEFT]++;
            topHandler = heap.at(wind, EXTRA);
            body.applyLater(heap.at(heap.at(wind, ITEM), NEXT));
        }

        // ---- applications

        private int argumentCount() {
            return list == 0 ? body.countOfArguments() : values.lengthOf(list);
        }

        /**
         * Whether all is at hand that the application needs; otherwise something is wanted. What was found is not looked for
         * again.
         */
        private boolean isReady() {
            int procedure = found > 0 ? arguments.get(PROCEDURE) : body.valueAt(body.start);
            int symbol = heap.kindOf(procedure) == PRIMITIVE ? heap.at(procedure, AMOUNT) : 0;
            int count = argumentCount();
            if (procedure == 0 || values.wanted != 0) {
                return false;
            }
            arguments.put(PROCEDURE, procedure);
            found = Math.max(found, 1);
            int needed = symbol == 0 ? 1 : argumentsOf(symbol);
            if (heap.kindOf(procedure) == CLOSURE || count != needed) {
                return true;
            }
            for (; found <= needed; found++) {
                int left = list == 0 ? 0 : values.tailOf(list, found - 1);
                int argument = list == 0 ? body.valueAt(body.start + found) : left == 0 ? 0 : values.firstOf(left);
                if (argument == 0) {
                    return false;
                }
                arguments.put(found - 1, argument);
            }
            int one = arguments.get(0);
            boolean isOfPair = (symbol == FIRST_SYMBOL || symbol == REST_SYMBOL) && values.isPair(one);
            if (isOfPair) {
                arguments.put(ANSWER, symbol == FIRST_SYMBOL ? values.firstOf(one) : values.restOf(one));
            } else if (symbol == APPLY_SYMBOL) {
                arguments.put(LENGTH, values.lengthOf(arguments.get(1)));
            }
            return values.wanted == 0;
        }

        private static int argumentsOf(int symbol) {
            int place = symbol - FIRST_PRIMITIVE;
            return place >= 0 && place < ARGUMENTS.length ? ARGUMENTS[place] : 0;
        }

        /** Makes the environment in which the body of a closure is evaluated. */
        private void bind(int closure) {
            int info = heap.noteOf(closure);
            int parameters = info >> 1;
            boolean hasRest = (info & 1) != 0;
            int count = argumentCount();
            if (count < parameters || count > parameters && !hasRest) {
                body.mode = 'a';
                return;
            }
            int row = list == 0
                    ? body.rowOfArguments(parameters, count, hasRest)
                    : values.rowOfList(list, parameters, hasRest);
            int bound = parameters + (hasRest ? 1 : 0);
            inner = heap.at(closure, AROUND);
            if (bound == 1 && !values.isRow(row)) {
                inner = heap.make(ONE_ENVIRONMENT, 0, row, inner, 0);
            } else if (bound > 0) {
                inner = heap.make(ENVIRONMENT, 0, row, inner, body.placeOfCall() << COUNT_BITS | bound);
            }
            due = ENTERING;
        }

        /** Applies a primitive; one that changes what is still to be done is then due. */
        private void applyPrimitive(int symbol) {
            if (argumentCount() != argumentsOf(symbol)) {
                body.mode = 'a';
                return;
            }
            if (symbol >= FIRST_CONTROL && symbol != NOT_SYMBOL) {
                due = symbol;
                return;
            }
            int one = arguments.get(0);
            int answer = -'t';
            if (symbol != FIRST_SYMBOL && symbol != REST_SYMBOL) {
                answer = values.answer(symbol, one, arguments.get(1));
            } else if (values.isPair(one)) {
                answer = arguments.get(ANSWER);
            }
            if (answer < 0) {
                body.mode = -answer;
            } else {
                body.giveForCall(answer);
            }
        }

        /** Goes on with what is due when the body has been left. */
        private void goInto(int procedure) {
            if (due == ENTERING) {
                int address = heap.at(procedure, CODE);
                int slots = (address & OFFSET_MASK) + BODY_PLACE;
                body.startWith(address >>> OFFSET_BITS, SEQUENCE | ACTIVE | slots << SLOT_SHIFT, inner);
            } else {
                control(due, arguments.get(0), arguments.get(1), arguments.get(2));
            }
        }

        private void control(int symbol, int one, int other, int third) {
            switch (symbol) {
                case 22:
                    body.applyLater(one);
                    body.push(heap.make(CONTINUATION, 0, frames, topWind, topHandler));
                    break;
                case 23:
                    wind(one, other, third);
                    break;
                case 24:
                    body.applyLater(one);
                    list = other;
                    if (arguments.get(LENGTH) < 0) {
                        body.mode = 't';
                    }
                    break;
                case 26:
                    push(PROMPT_FRAME, other, heap.make(CONTINUATION, 0, frames, topWind, topHandler));
                    body.applyLater(one);
                    break;
                case 27:
                    int prompt = innermostPrompt();
                    if (prompt == 0) {
                        body.mode = 'w';
                    } else {
                        jump(heap.at(prompt, EXTRA), one, heap.at(prompt, ITEM));
                    }
                    break;
                case 28:
                    push(HANDLER_FRAME, topHandler, 0);
                    topHandler = heap.make(HANDLER, 0, one, topHandler, countOfHandlers() + 1);
                    body.applyLater(other);
                    break;
                default:
                    raise(one);
            }
        }

        // A wind knows its parent and one further out, so that any that is around it is found in a few steps.
        private void wind(int before, int during, int after) {
            int thunks = heap.make(THUNKS, 0, before, after, depthOf(topWind) + 1);
            int out = heap.noteOf(topWind);
            int further = heap.noteOf(out);
            boolean isEven = depthOf(topWind) - depthOf(out) == depthOf(out) - depthOf(further);
            int wind = heap.make(WIND, topWind != 0 && isEven ? further : topWind, thunks, topWind, topHandler);
            push(BEFORE_FRAME, wind, during);
            body.applyLater(before);
        }

        private void raise(int raised) {
            if (topHandler == 0) {
                body.mode = 'h';
                return;
            }
            int handler = topHandler;
            push(HANDLER_FRAME, handler, 0);
            topHandler = heap.at(handler, NEXT);
            body.applyLater(heap.at(handler, ITEM));
            body.push(raised);
        }

        /** The frame of the innermost prompt; 0 if there is none. */
        private int innermostPrompt() {
            int frame = frames;
            for (int i = 0; i < MAX_CELLS && frame != 0 && heap.kindOf(frame) != PROMPT_FRAME; i++) {
                frame = heap.at(frame, NEXT);
            }
            return frame;
        }

        /** Jumps to a continuation, where the value goes on, or is taken by a procedure. */
        private void jump(int target, int carried, int taker) {
            tallies[JUMPS]++;
            int goal = heap.make(GOAL, 0, target, carried, taker);
            frames = 0;
            push(JUMP_FRAME, goal, innermostOfBoth(topWind, heap.at(target, WINDS)));
            body.end(NOTHING_CELL);
        }

        /** The wind at this depth that is around a wind, or is that one. */
        private int windAround(int wind, int depth) {
            int around = wind;
            for (int i = 0; i < MAX_CELLS && heap.at(heap.at(around, ITEM), EXTRA) > depth; i++) {
                int further = heap.noteOf(around);
                boolean isWithin = heap.at(heap.at(further, ITEM), EXTRA) >= depth;
                around = isWithin ? further : heap.at(around, NEXT);
            }
            return around;
        }

        private int innermostOfBoth(int one, int other) {
            int a = windAround(one, depthOf(other));
            int b = windAround(other, depthOf(one));
            for (int i = 0; i < MAX_CELLS && a != b; i++) {
                boolean isFar = heap.noteOf(a) != heap.noteOf(b);
                a = isFar ? heap.noteOf(a) : heap.at(a, NEXT);
                b = isFar ? heap.noteOf(b) : heap.at(b, NEXT);
            }
            return a;
        }

        /** Leaves the next wind that the goal is not in, or enters the next one that it is in, or arrives. */
        private void goOnWithJump(int goal, int staying) {
            int target = heap.at(goal, ITEM);
            int innermost = heap.at(target, WINDS);
            frames = heap.at(target, FRAMES);
            if (topWind != staying && topWind != 0) {
                push(JUMP_FRAME, goal, staying);
                leaveWind(topWind);
            } else if (staying != innermost) {
                int next = windAround(innermost, depthOf(staying) + 1);
                push(ENTER_FRAME, goal, next);
                topHandler = heap.at(next, EXTRA);
                body.applyLater(heap.at(heap.at(next, ITEM), ITEM));
            } else {
                topHandler = heap.at(target, HANDLERS);
                arrive(heap.at(goal, NEXT), heap.at(goal, EXTRA));
            }
        }

        private void arrive(int carried, int taker) {
            if (taker == 0) {
                body.give(carried);
            } else {
                body.applyLater(taker);
                body.push(carried);
            }
        }
    }
}
