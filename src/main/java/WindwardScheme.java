import java.util.NoSuchElementException;

/**
 * A small Scheme whose programs are data, laid by calls or read from text, and run by units of fuel.
 *
 * <p>All that programs make lives in one heap of equal cells that are used again when nothing reaches them, so that a
 * long row of calls needs no more room than what is still in use. A cell is named by a number; 0 is no cell. Code is
 * named by its address in the heap.
 */
public final class WindwardScheme {
    // The limits of the document.
    private static final int MAX_DATA = 3000;
    private static final int MAX_LAID_DEPTH = 60;
    private static final int MAX_MADE_DEPTH = 100;
    private static final int MAX_SIZE = 3000;
    private static final int MAX_AMOUNT = 1000000000;
    private static final int MAX_TEXT = 500;
    private static final int MAX_FUEL = 500;
    private static final int MAX_FORMS_AROUND = 100;
    private static final int MAX_EXPANSIONS = 200;
    private static final int SYMBOLS = 60;

    // The symbols that mean something from the first.
    private static final int QUOTE_SYMBOL = 0;
    private static final int IF_SYMBOL = 1;
    private static final int LAMBDA_SYMBOL = 2;
    private static final int DEFINE_SYMBOL = 3;
    private static final int SET_SYMBOL = 4;
    private static final int BEGIN_SYMBOL = 5;
    private static final int SYNTAX_SYMBOL = 6;
    private static final int ELLIPSIS_SYMBOL = 7;
    private static final int BLANK_SYMBOL = 8;
    private static final int FIRST_PRIMITIVE = 10;
    private static final int LAST_OF_NUMBERS = 15;
    private static final int LAST_PRIMITIVE = 29;

    // What a symbol can be.
    private static final int UNKNOWN = 0;
    private static final int KEYWORD = 1;
    private static final int MACRO = 2;
    private static final int VARIABLE = 3;

    // Kinds of cells: data and other values.
    private static final int FREE = 0;
    private static final int NUMBER = 1; // numerator, denominator
    private static final int SYMBOL = 2; // its number
    private static final int RENAMED = 3; // the name under it, its mark
    private static final int TRUTH = 4; // 1 or 0
    private static final int EMPTY = 5;
    private static final int PAIR = 6; // first part, other part, measure
    private static final int NOTHING = 7;
    private static final int CLOSURE = 8; // address of the lambda, environment, time
    private static final int PRIMITIVE = 9; // its symbol
    private static final int CONTINUATION = 10; // frames, winds, handlers
    private static final int VIEW = 11; // frame or pair, whose list it is or 0, place in the call: see Values
    // Kinds of cells: rows, each with an item and the next one.
    private static final int LINK = 12; // item, next
    private static final int SCOPE = 13; // name, next; note: see Expander
    private static final int MATCH = 14; // pattern variable, next, what it matched
    private static final int ROW = 15; // first link, last link, length
    // Kinds of cells: environments: where the arguments are, the one around, what was set; note: see Machine
    private static final int CALL_ENVIRONMENT = 16; // frame of the call
    private static final int LIST_ENVIRONMENT = 17; // list
    private static final int ONE_ENVIRONMENT = 18; // the argument itself
    private static final int ITEMS_ENVIRONMENT = 19; // items
    private static final int ITEMS = 20; // value, next, value
    // Kinds of cells: how far the body of a procedure, or a program, has come
    private static final int CALL_FRAME = 21; // address of the call, next, state; note: time
    private static final int STATE = 22; // environment, events, globals; note: what was set in the environment
    private static final int SAVED = 23; // value, events before, address of the call; note: which part of it
    private static final int RESUMED = 24; // value, frame of the call that came to it
    private static final int CHANGED = 25; // globals, events before, what was set before; note: address of the form
    // Kinds of cells: other frames, of what is still to be done.
    private static final int HANDLER_FRAME = 26; // handlers to come back to, next
    private static final int PROMPT_FRAME = 27; // handler, next, continuation of the prompt
    private static final int BEFORE_FRAME = 28; // wind, next, during
    private static final int DURING_FRAME = 29; // wind, next
    private static final int AFTER_FRAME = 30; // value, next
    private static final int JUMP_FRAME = 31; // goal, next, innermost wind that stays
    private static final int ENTER_FRAME = 32; // goal, next, wind to be entered
    // Kinds of cells: what frames and registers hold.
    private static final int WIND = 33; // thunks, the wind around it, handlers; note: a wind further out
    private static final int THUNKS = 34; // before, after, how many winds there are with it
    private static final int HANDLER = 35; // procedure, the handler around it, how many handlers there are with it
    private static final int GOAL = 36; // continuation, value, procedure that takes it or 0
    private static final int TREE = 37; // four parts; kinds 38 to 42 have trees of the kind below as parts

    // The fields of a cell that name other cells, by kind: 1 the first field, 2 the second, 4 the third, 8 the note.
    private static final byte[] REFERENCES = {
        0, 0, 0, 1, 0, 0, 3, 0, 2, 0, 7, 3, 3, 3, 7, 3, 7, 7, 7, 7, 7, 6, 15, 3, 3, 7, 3, 7, 7, 3, 3, 7, 7, 15, 3, 3, 7, 15,
        15, 15, 15, 15, 15
    };

    // The fields of cells, by the names that fit their kinds.
    private static final int HEAD = 0;
    private static final int FIRST = 1;
    private static final int REST = 2;
    private static final int MEASURE = 3;
    private static final int AMOUNT = 1;
    private static final int DENOMINATOR = 2;
    private static final int UNDER = 1;
    private static final int STAMP = 2;
    private static final int CODE = 1;
    private static final int ENVIRONMENT = 2;
    private static final int TIME = 3;
    private static final int FRAMES = 1;
    private static final int WINDS = 2;
    private static final int HANDLERS = 3;
    private static final int ITEM = 1;
    private static final int NEXT = 2;
    private static final int EXTRA = 3;

    // The cells that are always there, in the order in which Store makes them.
    private static final int FIRST_SYMBOL_CELL = 1;
    private static final int FALSE_CELL = 61;
    private static final int TRUE_CELL = 62;
    private static final int EMPTY_CELL = 63;
    private static final int NOTHING_CELL = 64;
    private static final int PRIMITIVE_CELLS = 55;

    // The measure of a pair: its size, its depth, and whether a renamed symbol is in it.
    private static final int SIZE_MASK = 4095;
    private static final int DEPTH_SHIFT = 12;
    private static final int DEPTH_MASK = 127;
    private static final int RENAMED_INSIDE = 1 << 19;
    private static final int MEASURE_OF_ONE = 1 << 12 | 1;

    // Kinds of nodes of code, with what is noted of them; a node has a slot for each form in it.
    private static final int PROGRAM = 1;
    private static final int LAMBDA = 2; // twice the parameters and 1 for a rest, and the number of the first one
    private static final int CALL = 3;
    private static final int BRANCH = 4;
    private static final int SEQUENCE = 5;
    private static final int SET_LOCAL = 6; // the slot of the variable
    private static final int SET_GLOBAL = 7; // symbol
    private static final int DEFINITION = 8; // symbol
    private static final int SYNTAX = 9; // symbol; more: literals and rules
    // What a slot holds, by its lowest bits.
    private static final int NODE = 0; // address
    private static final int CONSTANT = 1; // cell
    private static final int QUOTATION = 2; // cell
    private static final int LOCAL = 3; // whether it is a rest, place among the parameters, how many environments out
    private static final int GLOBAL = 4; // symbol
    private static final int CLOSED = 5; // address of a lambda

    // The heap.
    private static final int CHUNK_BITS = 11;
    private static final int CHUNK_WORDS = 2048;
    private static final int CHUNK_CELLS = 512;
    private static final int MAX_CHUNKS = 3360;
    private static final int MAX_CELLS = MAX_CHUNKS * CHUNK_CELLS;
    private static final int KIND_MASK = 63;
    private static final int MARKED = 64;
    private static final int KEPT = 128;
    private static final int GRAY = 256;
    private static final int NOTE_SHIFT = 9;
    private static final int MAX_NOTE = (1 << 23) - 1;

    // Bounds of loops and recursions that no run comes near to.
    private static final int MAX_STEPS = 2000000000;
    private static final int MAX_LEVEL = 104;

    private final Store store;
    private final Writer writer;
    private final Reader reader;
    private final Expander expander;
    private final Machine machine;
    private final Counts counts;

    public WindwardScheme() {
        Heap heap = new Heap();
        Store laid = new Store(heap);
        Code code = new Code(heap);
        Values values = new Values(heap, laid, code);
        Counts counted = new Counts();
        store = laid;
        counts = counted;
        writer = new Writer(heap, code, values);
        reader = new Reader();
        expander = new Expander(heap, laid, code);
        machine = new Machine(heap, laid, code, values, counted);
    }

    // ---- data

    public int number(int numerator, int denominator) throws IllegalArgumentException, IllegalStateException {
        if (!Store.fits(numerator, denominator)) {
            throw new IllegalArgumentException("the denominator is 0, or the number is out of range");
        }
        needRoomForOne();
        return needLaid(store.lay(store.fraction(numerator, denominator)));
    }

    public int symbol(int symbol) throws IllegalArgumentException, IllegalStateException {
        needSymbol(symbol);
        return needLaid(store.lay(FIRST_SYMBOL_CELL + symbol));
    }

    public int truth(boolean isTrue) throws IllegalStateException {
        return needLaid(store.lay(isTrue ? TRUE_CELL : FALSE_CELL));
    }

    public int empty() throws IllegalStateException {
        return needLaid(store.lay(EMPTY_CELL));
    }

    public int pair(int first, int rest) throws IndexOutOfBoundsException, IllegalStateException {
        needDatum(first);
        needDatum(rest);
        needRoomForOne();
        return needLaid(store.layPair(first, rest));
    }

    public int data() {
        return store.count;
    }

    public char kind(int datum) throws IndexOutOfBoundsException {
        needDatum(datum);
        return store.letterOf(store.cellOf(datum));
    }

    public int part(int datum, boolean isFirst) throws IndexOutOfBoundsException, UnsupportedOperationException {
        needDatum(datum);
        if (kind(datum) != 'p') {
            throw new UnsupportedOperationException("no pair");
        }
        return store.partOf(datum, isFirst);
    }

    public long amount(int datum) throws IndexOutOfBoundsException, UnsupportedOperationException {
        char letter = kind(datum);
        if (letter != 'n' && letter != 's' && letter != 't') {
            throw new UnsupportedOperationException("neither a number nor a name nor a truth");
        }
        return store.amountOf(datum);
    }

    public double asDouble(int datum) throws IndexOutOfBoundsException, UnsupportedOperationException {
        if (kind(datum) != 'n') {
            throw new UnsupportedOperationException("no number");
        }
        return store.quotientOf(datum);
    }

    public boolean areAlike(int datum, int other) throws IndexOutOfBoundsException {
        needDatum(datum);
        needDatum(other);
        return store.areShapedAlike(store.cellOf(datum), store.cellOf(other));
    }

    // ---- text

    public int write(int datum) throws IndexOutOfBoundsException, UnsupportedOperationException {
        needDatum(datum);
        return needWritten(writer.putAll(false, store.cellOf(datum)));
    }

    public int writeExpanded(int datum)
            throws IndexOutOfBoundsException, IllegalArgumentException, UnsupportedOperationException {
        needDatum(datum);
        int program = expander.expand(store.cellOf(datum));
        if (program == 0) {
            throw new IllegalArgumentException("the program is wrong");
        }
        int length = writer.putAll(true, program);
        expander.forget();
        return needWritten(length);
    }

    public char charAt(int index) throws IndexOutOfBoundsException {
        if (index < 0 || index >= writer.length) {
            throw new IndexOutOfBoundsException("no such place in the text");
        }
        return writer.signAt(index);
    }

    public int type(char character) throws IllegalArgumentException, IllegalStateException {
        if (character < 32 || character > 126) {
            throw new IllegalArgumentException("the character is out of range");
        }
        if (writer.length >= MAX_TEXT) {
            throw new IllegalStateException("the text is full");
        }
        return writer.append(character);
    }

    public int clear() {
        return writer.forget();
    }

    public int read() throws IllegalArgumentException, IllegalStateException {
        if (!reader.takes(writer)) {
            throw new IllegalArgumentException("the text is no datum");
        }
        if (reader.needed > MAX_DATA - store.count) {
            throw new IllegalStateException("there would be too many data");
        }
        return needLaid(reader.layAll(store));
    }

    // ---- running

    public char begin(int datum) throws IndexOutOfBoundsException {
        needDatum(datum);
        machine.stop();
        int program = expander.expand(store.cellOf(datum));
        counts.expansions += expander.used;
        return machine.start(program, expander.letter);
    }

    public char run(int fuel) throws IllegalStateException, IllegalArgumentException {
        needBegun();
        if (fuel < 1 || fuel > MAX_FUEL) {
            throw new IllegalArgumentException("the number of applications is out of range");
        }
        return machine.goOn(fuel);
    }

    public char state() throws IllegalStateException {
        needBegun();
        return machine.stateNow();
    }

    public char valueKind() throws IllegalStateException, NoSuchElementException {
        needValue();
        return store.letterOf(machine.value);
    }

    public long valueAmount() throws IllegalStateException, NoSuchElementException, UnsupportedOperationException {
        needValue();
        if (store.letterOf(machine.value) != 'n') {
            throw new UnsupportedOperationException("the value is no number");
        }
        return store.firstFieldOf(machine.value);
    }

    public int writeValue() throws IllegalStateException, NoSuchElementException, UnsupportedOperationException {
        needValue();
        return needWritten(writer.putAll(false, machine.value));
    }

    public char error() throws IllegalStateException, NoSuchElementException {
        needBegun();
        if (machine.stateNow() != 'e') {
            throw new NoSuchElementException("the run did not end with an error");
        }
        return machine.status;
    }

    public int winds() throws IllegalStateException {
        needBegun();
        return machine.countOfWinds();
    }

    public int handlers() throws IllegalStateException {
        needBegun();
        return machine.countOfHandlers();
    }

    public int writeGlobal(int symbol)
            throws IllegalArgumentException, NoSuchElementException, UnsupportedOperationException {
        needSymbol(symbol);
        int global = store.globalValue(symbol);
        if (global == 0) {
            throw new NoSuchElementException("no global variable with a value");
        }
        return needWritten(writer.putAll(false, global));
    }

    public char meaning(int symbol) throws IllegalArgumentException {
        needSymbol(symbol);
        switch (store.meaningOf(symbol)) {
            case KEYWORD:
                return 'k';
            case MACRO:
                return 'm';
            case VARIABLE:
                return 'v';
            default:
                return '-';
        }
    }

    // ---- counts

    public long applications() {
        return counts.applications;
    }

    public int expansions() {
        return counts.expansions;
    }

    public int entered() {
        return counts.entered;
    }

    public int left() {
        return counts.left;
    }

    public int jumps() {
        return counts.jumps;
    }

    public float valueShare() throws ArithmeticException {
        needEnded();
        return (float) counts.endedWithValue / (float) counts.ended;
    }

    public double meanApplications() throws ArithmeticException {
        needEnded();
        return (double) counts.applicationsOfEnded / (double) counts.ended;
    }

    public boolean isSound() {
        return store.areDataSound() && counts.entered - counts.left == counts.abandoned + machine.countOfWinds();
    }

    // ---- what the calls need

    private void needDatum(int datum) {
        if (!store.has(datum)) {
            throw new IndexOutOfBoundsException("no such datum");
        }
    }

    private void needSymbol(int symbol) {
        if (symbol < 0 || symbol >= SYMBOLS) {
            throw new IllegalArgumentException("no such symbol");
        }
    }

    private void needRoomForOne() {
        if (store.count >= MAX_DATA) {
            throw new IllegalStateException("there are too many data");
        }
    }

    private static int needLaid(int datum) {
        if (datum < 0) {
            throw new IllegalStateException("the datum cannot be laid");
        }
        return datum;
    }

    private static int needWritten(int length) {
        if (length < 0) {
            throw new UnsupportedOperationException("the text would be too long");
        }
        return length;
    }

    private void needBegun() {
        if (!machine.isBegun()) {
            throw new IllegalStateException("no program was begun");
        }
    }

    private void needValue() {
        needBegun();
        if (machine.status != 'v') {
            throw new NoSuchElementException("the run did not end with a value");
        }
    }

    private void needEnded() {
        if (counts.ended == 0) {
            throw new ArithmeticException("no run has ended");
        }
    }

    /** A row of numbers; outside of it there are zeros. */
    private static final class Row {
        final int[] words;

        Row(int length) {
            words = new int[length < 0 ? 0 : length];
        }

        int get(int index) {
            return index >= 0 && index < words.length ? words[index] : 0;
        }

        void put(int index, int word) {
            if (index >= 0 && index < words.length) {
                words[index] = word;
            }
        }

        void fillWithZeros() {
            for (int i = 0; i < words.length; i++) {
                words[i] = 0;
            }
        }
    }

    /**
     * Chunks of words. Some hold cells of a head and three fields; those that no root reaches are found by collect() and
     * used again. Others hold the code of groups of programs, which stay as long as a cell names code in them; the first
     * word of a group is a list of data that are quoted in it.
     */
    private static final class Heap {
        private static final int MAX_ROOTS = 8;
        private static final int MIN_DUE = 8192;
        private static final int RESERVE = 49152;
        private static final int CHUNKS_FOR_CODE = 64;
        private static final int MAX_STACK = 8192;
        private static final int SHARED = 512;
        private static final int OF_CELLS = -1;
        private static final int IN_USE = 1 << 30;

        private final Row[] chunks;
        private final int[] uses; // of each chunk: 0 none, OF_CELLS, or 1 more than the first chunk of its group
        private final Row[] roots;
        private int rootCount;
        private final Row shared;
        private int[] stack;
        private int stacked;
        private boolean isStackShort;
        private int fresh;
        private int freshEnd;
        private int free;
        private int made;
        private int due;
        private int live;
        private int chunksOfCells;
        private int chunksOfCode;
        private int lowest;
        int codeAtHand; // an address in code that stays, or 0
        int openGroup; // the group of the program that is expanded, or 0
        int releases; // how many chunks of code have been given back

        Heap() {
            chunks = new Row[MAX_CHUNKS];
            uses = new int[MAX_CHUNKS];
            roots = new Row[MAX_ROOTS];
            shared = new Row(SHARED);
            fresh = 1;
            due = MIN_DUE;
        }

        /** A new cell; 0 if the heap is full. */
        int make(int cellKind, int note, int one, int two, int three) {
            int cell = free;
            if (cell != 0) {
                free = at(cell, ITEM);
            } else {
                int taken = fresh >= freshEnd && chunksOfCells < MAX_CHUNKS - CHUNKS_FOR_CODE ? unusedChunk(OF_CELLS) : -1;
                if (taken >= 0 && taken < chunks.length) {
                    chunks[taken] = chunks[taken] == null ? new Row(CHUNK_WORDS) : chunks[taken];
                    chunks[taken].fillWithZeros();
                    fresh = Math.max(1, taken * CHUNK_CELLS);
                    freshEnd = (taken + 1) * CHUNK_CELLS;
                }
                if (fresh >= freshEnd) {
                    return 0;
                }
                cell = fresh;
                fresh++;
            }
            int place = cell >> CHUNK_BITS - 2;
            int base = (cell & CHUNK_CELLS - 1) << 2;
            if (place < 0 || place >= chunks.length || chunks[place] == null || base + 3 >= chunks[place].words.length) {
                return 0;
            }
            int[] words = chunks[place].words;
            words[base] = cellKind | note << NOTE_SHIFT;
            words[base + 1] = one;
            words[base + 2] = two;
            words[base + 3] = three;
            made++;
            return cell;
        }

        /** A cell that is never changed: the one that was made lately, if there is one like it. */
        int makeShared(int cellKind, int note, int one, int two, int three) {
            int hash = (((cellKind * 31 + note) * 31 + one) * 31 + two) * 31 + three;
            int place = (hash ^ hash >>> 15) & SHARED - 1;
            int cell = shared.get(place);
            if (cell != 0
                    && (at(cell, HEAD) & ~(MARKED | KEPT | GRAY)) == (cellKind | note << NOTE_SHIFT)
                    && at(cell, 1) == one
                    && at(cell, 2) == two
                    && at(cell, 3) == three) {
                return cell;
            }
            cell = make(cellKind, note, one, two, three);
            shared.put(place, cell);
            return cell;
        }

        /** A chunk that was not in use; -1 if there is none. */
        private int unusedChunk(int use) {
            for (int i = lowest; i >= 0 && i < uses.length; i++) {
                if (uses[i] == 0) {
                    uses[i] = use;
                    lowest = i + 1;
                    chunksOfCells += use == OF_CELLS ? 1 : 0;
                    chunksOfCode += use == OF_CELLS ? 0 : 1;
                    return i;
                }
            }
            return -1;
        }

        /** A chunk for the code of a group, or of a new group if that is 0; -1 if there is none. */
        int chunkForCode(int group) {
            int taken = unusedChunk(group == 0 ? MAX_CHUNKS : group);
            if (taken >= 0 && taken < chunks.length && taken < uses.length) {
                chunks[taken] = chunks[taken] == null ? new Row(CHUNK_WORDS) : chunks[taken];
                chunks[taken].fillWithZeros();
                uses[taken] = group == 0 ? taken + 1 : group;
            }
            made += CHUNK_CELLS;
            return taken;
        }

        int groupOf(int chunk) {
            return chunk >= 0 && chunk < uses.length && uses[chunk] > 0 ? uses[chunk] : 0;
        }

        /** Gives back the chunks of a group, but for one. */
        void release(int group, int but) {
            for (int i = 0; i < uses.length && group > 0; i++) {
                if (uses[i] == group && i != but) {
                    releaseChunk(i);
                }
            }
        }

        private void releaseChunk(int chunk) {
            if (chunk >= 0 && chunk < uses.length) {
                boolean isCode = uses[chunk] > 0;
                uses[chunk] = 0;
                lowest = Math.min(lowest, chunk);
                chunksOfCode -= isCode ? 1 : 0;
                chunksOfCells -= isCode ? 0 : 1;
                releases += isCode ? 1 : 0;
            }
        }

        int word(int address) {
            int place = address >> CHUNK_BITS;
            if (place < 0 || place >= chunks.length || chunks[place] == null) {
                return 0;
            }
            int[] words = chunks[place].words;
            int index = address & CHUNK_WORDS - 1;
            return index < words.length ? words[index] : 0;
        }

        void putWord(int address, int word) {
            int place = address >> CHUNK_BITS;
            if (place >= 0 && place < chunks.length && chunks[place] != null) {
                int[] words = chunks[place].words;
                int index = address & CHUNK_WORDS - 1;
                if (index < words.length) {
                    words[index] = word;
                }
            }
        }

        int at(int cell, int field) {
            int place = cell >> CHUNK_BITS - 2;
            if (place < 0 || place >= chunks.length || chunks[place] == null) {
                return 0;
            }
            int[] words = chunks[place].words;
            int index = ((cell & CHUNK_CELLS - 1) << 2) + field;
            return index >= 0 && index < words.length ? words[index] : 0;
        }

        void put(int cell, int field, int word) {
            int place = cell >> CHUNK_BITS - 2;
            int index = ((cell & CHUNK_CELLS - 1) << 2) + field;
            if (cell > 0 && place < chunks.length && chunks[place] != null) {
                chunks[place].put(index, word);
            }
        }

        int kindOf(int cell) {
            int place = cell >> CHUNK_BITS - 2;
            int index = (cell & CHUNK_CELLS - 1) << 2;
            boolean isThere = place >= 0 && place < chunks.length && chunks[place] != null;
            return isThere && index < chunks[place].words.length ? chunks[place].words[index] & KIND_MASK : FREE;
        }

        int noteOf(int cell) {
            int place = cell >> CHUNK_BITS - 2;
            int index = (cell & CHUNK_CELLS - 1) << 2;
            boolean isThere = place >= 0 && place < chunks.length && chunks[place] != null;
            return isThere && index < chunks[place].words.length ? chunks[place].words[index] >>> NOTE_SHIFT : 0;
        }

        void setNote(int cell, int note) {
            put(cell, HEAD, at(cell, HEAD) & (1 << NOTE_SHIFT) - 1 | note << NOTE_SHIFT);
        }

        /** Lets a cell stay for ever; all that it reaches must stay, too. */
        void keep(int cell) {
            put(cell, HEAD, at(cell, HEAD) | KEPT);
        }

        boolean isKept(int cell) {
            return (at(cell, HEAD) & KEPT) != 0;
        }

        /** A new row of cells that stay as long as they stand in it. */
        Row newRoots(int length) {
            Row row = new Row(length);
            if (rootCount >= 0 && rootCount < roots.length) {
                roots[rootCount] = row;
                rootCount++;
            }
            return row;
        }

        /** The leaf of a tree at this place; 0 if there is none. */
        int leaf(int tree, int place) {
            int node = tree;
            int level = tree == 0 ? -1 : (at(tree, HEAD) & KIND_MASK) - TREE;
            if (place >> 2 * level + 2 != 0) {
                return 0;
            }
            for (int i = level; i >= 0 && node != 0; i--) {
                int which = place >> 2 * i & 3;
                node = which == 3 ? at(node, HEAD) >>> NOTE_SHIFT : at(node, which + 1);
            }
            return node;
        }

        /** A tree that is like this one, but has this leaf at this place. */
        int withLeaf(int tree, int place, int leaf) {
            if (leaf(tree, place) == leaf) {
                return tree;
            }
            int top = tree;
            int level = tree == 0 ? 0 : kindOf(tree) - TREE;
            for (int i = 0; i < 5 && place >> 2 * level + 2 != 0; i++) {
                level++;
                top = top == 0 ? 0 : makeShared(TREE + level, 0, top, 0, 0);
            }
            int built = leaf;
            for (int i = 0; i <= level; i++) {
                int node = top;
                for (int j = level; j > i && node != 0; j--) {
                    int which = place >> 2 * j & 3;
                    node = which == 3 ? noteOf(node) : at(node, which + 1);
                }
                int part = place >> 2 * i & 3;
                built = makeShared(TREE + i, part == 3 ? built : noteOf(node), part == 0 ? built : at(node, 1),
                        part == 1 ? built : at(node, 2), part == 2 ? built : at(node, 3));
            }
            return built;
        }

        boolean isDue() {
            return made >= due;
        }

        private int spareCells() {
            int most = Math.min(MAX_CHUNKS - chunksOfCode, MAX_CHUNKS - CHUNKS_FOR_CODE);
            return most * CHUNK_CELLS - live - RESERVE;
        }

        /** Whether so much is in use that just the reserve is left, which is for data and expansions. */
        boolean isFull() {
            return spareCells() < 0;
        }

        void collect() {
            stacked = 0;
            isStackShort = false;
            stack = stack == null ? new int[MAX_STACK] : stack;
            shared.fillWithZeros();
            useCode(codeAtHand);
            useCode(openGroup - 1 << CHUNK_BITS);
            for (int i = 0; i < rootCount && i < roots.length; i++) {
                Row row = roots[i];
                int length = row == null ? 0 : row.words.length;
                for (int j = 0; j < length; j++) {
                    shade(row.get(j));
                }
            }
            scanStacked();
            for (int i = 0; i < MAX_CHUNKS && isStackShort; i++) {
                isStackShort = false;
                scanGray();
            }
            sweepCells();
            sweepCode();
            made = 0;
            due = Math.max(MIN_DUE, Math.min(live / 2, spareCells()));
        }

        private void shade(int cell) {
            int place = cell >> CHUNK_BITS - 2;
            int index = (cell & CHUNK_CELLS - 1) << 2;
            if (place < 0 || place >= chunks.length || chunks[place] == null || index >= chunks[place].words.length) {
                return;
            }
            int head = chunks[place].words[index];
            if ((head & (MARKED | KEPT)) != 0 || (head & KIND_MASK) == FREE) {
                return;
            }
            if (stack != null && stacked >= 0 && stacked < stack.length) {
                chunks[place].words[index] = head | MARKED;
                stack[stacked] = cell;
                stacked++;
            } else {
                chunks[place].words[index] = head | MARKED | GRAY;
                isStackShort = true;
            }
        }

        private void scanStacked() {
            for (int i = 0; i < MAX_CELLS && stack != null && stacked > 0 && stacked <= stack.length; i++) {
                stacked--;
                scan(stack[stacked]);
            }
        }

        /** Scans the cells for which there was no place on the stack. */
        private void scanGray() {
            for (int cell = 1; cell < MAX_CELLS; cell++) {
                if ((cell & CHUNK_CELLS - 1) == 0 && !isOfCells(cell >> CHUNK_BITS - 2)) {
                    cell += CHUNK_CELLS - 1;
                } else if ((at(cell, HEAD) & GRAY) != 0) {
                    put(cell, HEAD, at(cell, HEAD) & ~GRAY);
                    scan(cell);
                    scanStacked();
                }
            }
        }

        private boolean isOfCells(int chunk) {
            return chunk >= 0 && chunk < uses.length && uses[chunk] == OF_CELLS;
        }

        private void scan(int cell) {
            int head = at(cell, HEAD);
            int cellKind = head & KIND_MASK;
            int fields = cellKind < REFERENCES.length ? REFERENCES[cellKind] : 0;
            // The next one of a row is taken from the stack behind the others: so a long row needs little of it.
            if ((fields & 2) != 0) {
                shade(at(cell, NEXT));
            }
            if ((fields & 1) != 0) {
                shade(at(cell, ITEM));
            }
            if ((fields & 4) != 0) {
                shade(at(cell, EXTRA));
            }
            if ((fields & 8) != 0) {
                shade(head >>> NOTE_SHIFT);
            }
            if (cellKind == CLOSURE || cellKind == CALL_FRAME) {
                useCode(at(cell, CODE));
            }
        }

        /** Lets the group of code to which an address belongs stay. */
        private void useCode(int address) {
            int chunk = address >> CHUNK_BITS;
            int first = chunk > 0 && chunk < uses.length && uses[chunk] > 0 ? (uses[chunk] & ~IN_USE) - 1 : -1;
            if (first >= 0 && first < uses.length && uses[first] == first + 1) {
                uses[first] |= IN_USE;
                shade(word(first << CHUNK_BITS));
            }
        }

        private void sweepCells() {
            live = 0;
            free = 0;
            fresh = 0;
            freshEnd = 0;
            for (int chunk = uses.length - 1; chunk >= 0; chunk--) {
                if (uses[chunk] == OF_CELLS) {
                    sweepChunk(chunk);
                }
            }
        }

        private void sweepChunk(int chunk) {
            int freeBefore = free;
            int liveBefore = live;
            for (int cell = (chunk + 1) * CHUNK_CELLS - 1; cell >= chunk * CHUNK_CELLS && cell > 0; cell--) {
                int head = at(cell, HEAD);
                if ((head & (MARKED | KEPT)) != 0) {
                    put(cell, HEAD, head & ~MARKED);
                    live++;
                } else {
                    put(cell, HEAD, FREE);
                    put(cell, ITEM, free);
                    free = cell;
                }
            }
            if (live == liveBefore) {
                free = freeBefore;
                releaseChunk(chunk);
            }
        }

        private void sweepCode() {
            for (int i = 0; i < uses.length; i++) {
                int group = uses[i] > 0 ? uses[i] & ~IN_USE : 0;
                if (group > 0 && group <= uses.length && (uses[group - 1] <= 0 || (uses[group - 1] & IN_USE) == 0)) {
                    releaseChunk(i);
                }
            }
            for (int i = 0; i < uses.length; i++) {
                uses[i] = uses[i] > 0 ? uses[i] & ~IN_USE : uses[i];
            }
        }
    }

    /**
     * The code of programs: nodes, each with its kind, how many slots it has, and in which slot of which other node it
     * stands. A program's nodes stand in one chunk with those of the programs before, or go on in other chunks.
     */
    private static final class Code {
        private static final int HEADER = 4;
        private static final int PARENT = 1;
        private static final int INFO = 2;
        private static final int MORE = 3;
        private static final int COUNT_SHIFT = 4;
        private static final int INDEX_SHIFT = 15;
        private static final int PARTS_MASK = 2047;
        private static final int BOUND_MASK = 4095;

        private final Heap heap;
        private int chunk;
        private int top;
        private int group;
        private int chunkBefore;
        private int topBefore;
        private int quotedBefore;

        Code(Heap heap) {
            this.heap = heap;
            chunk = -1;
        }

        /** Begins with the code of a program. */
        void open() {
            if (heap.groupOf(chunk) != group || group == 0) {
                chunk = -1;
                group = 0;
            }
            chunkBefore = chunk;
            topBefore = top;
            quotedBefore = heap.word(firstWord());
            heap.openGroup = group;
        }

        /** Keeps the code; a group that has become larger than a chunk takes no more programs. */
        void close() {
            heap.openGroup = 0;
            chunk = chunk + 1 == group ? chunk : -1;
        }

        /** Takes the code back, from where it was opened. */
        void drop() {
            heap.release(group, chunkBefore);
            chunk = chunkBefore;
            top = topBefore;
            group = chunkBefore < 0 ? 0 : group;
            if (chunk >= 0) {
                heap.putWord(firstWord(), quotedBefore);
            }
            heap.openGroup = 0;
        }

        private int firstWord() {
            return group == 0 ? 0 : group - 1 << CHUNK_BITS;
        }

        /** Lets a datum stay as long as the code of its group. */
        void keepQuoted(int datum) {
            if (group != 0 && !heap.isKept(datum)) {
                heap.putWord(firstWord(), heap.make(LINK, 0, datum, heap.word(firstWord()), 0));
            }
        }

        /** A new node; 0 if there is no room. */
        int newNode(int nodeKind, int count, int parent, int index, int info) {
            if (chunk < 0 || top + HEADER + count > CHUNK_WORDS) {
                chunk = heap.chunkForCode(group);
                top = 1;
                if (chunk < 0) {
                    return 0;
                }
                group = heap.groupOf(chunk);
                heap.openGroup = group;
            }
            int node = chunk << CHUNK_BITS | top;
            top += HEADER + count;
            heap.putWord(node, nodeKind | count << COUNT_SHIFT | index << INDEX_SHIFT);
            heap.putWord(node + PARENT, parent);
            heap.putWord(node + INFO, info);
            heap.putWord(node + MORE, 0);
            return node;
        }

        int kindOf(int node) {
            return heap.word(node) & 15;
        }

        boolean isSetting(int node) {
            return kindOf(node) == SET_LOCAL || kindOf(node) == SET_GLOBAL;
        }

        int countOf(int node) {
            return heap.word(node) >> COUNT_SHIFT & PARTS_MASK;
        }

        int indexOf(int node) {
            return heap.word(node) >> INDEX_SHIFT & PARTS_MASK;
        }

        int parentOf(int node) {
            return heap.word(node + PARENT);
        }

        int infoOf(int node) {
            return heap.word(node + INFO);
        }

        int moreOf(int node) {
            return heap.word(node + MORE);
        }

        void setMore(int node, int more) {
            heap.putWord(node + MORE, more);
        }

        int slotOf(int node, int index) {
            return heap.word(node + HEADER + index);
        }

        void setSlot(int node, int index, int slot) {
            heap.putWord(node + HEADER + index, slot);
        }

        static int tagOf(int slot) {
            return slot & 7;
        }

        static int contentOf(int slot) {
            return slot >>> 3;
        }

        static int localSlot(boolean isRest, int place, int depth) {
            return LOCAL | (isRest ? 8 : 0) | place << 4 | depth << 15;
        }

        static boolean isRest(int slot) {
            return (slot & 8) != 0;
        }

        static int placeOf(int slot) {
            return slot >> 4 & PARTS_MASK;
        }

        static int depthOf(int slot) {
            return slot >>> 15;
        }

        static int parametersOf(int info) {
            return info >> 1 & PARTS_MASK;
        }

        static boolean hasRest(int info) {
            return (info & 1) != 0;
        }

        /** The number of the first variable that a lambda binds. */
        static int firstVariable(int info) {
            return info >>> 12;
        }

        static int lambdaInfo(int parameters, boolean hasRest, int firstVariable) {
            return firstVariable << 12 | parameters << 1 | (hasRest ? 1 : 0);
        }

        /** The lambda that binds a variable, which is this many environments out from a node. */
        int binderOf(int node, int depth) {
            int around = node;
            int left = depth;
            for (int i = 0; i < MAX_LEVEL && around != 0; i++) {
                boolean isBinding = (heap.word(around) & 15) == LAMBDA && (heap.word(around + INFO) & BOUND_MASK) != 0;
                if (isBinding && left == 0) {
                    return around;
                }
                left -= isBinding ? 1 : 0;
                around = heap.word(around + PARENT);
            }
            return 0;
        }

        /** Notes that the variable of a slot is set somewhere; a few others of its lambda seem to be set then, too. */
        void noteSet(int binder, int slot) {
            setMore(binder, moreOf(binder) | 1 << placeOf(slot) % 31);
        }

        boolean isSet(int binder, int slot) {
            return (heap.word(binder + MORE) >> placeOf(slot) % 31 & 1) != 0;
        }

        /** Whether a node is the last thing that is done in a body. */
        boolean isLast(int node) {
            int inner = node;
            for (int i = 0; i < MAX_LEVEL; i++) {
                int around = parentOf(inner);
                int index = indexOf(inner);
                int aroundKind = kindOf(around);
                boolean isEnd = index == countOf(around) - 1;
                if (aroundKind == LAMBDA || aroundKind == PROGRAM) {
                    return isEnd;
                }
                if (aroundKind == BRANCH ? index == 0 : aroundKind != SEQUENCE || !isEnd) {
                    return false;
                }
                inner = around;
            }
            return false;
        }

        /** Whether a node stands in a part of a call, within its body. */
        boolean isInCall(int node) {
            int around = parentOf(node);
            for (int i = 0; i < MAX_LEVEL; i++) {
                switch (kindOf(around)) {
                    case CALL:
                        return true;
                    case BRANCH:
                    case SEQUENCE:
                    case SET_LOCAL:
                    case SET_GLOBAL:
                    case DEFINITION:
                        around = parentOf(around);
                        break;
                    default:
                        return false;
                }
            }
            return false;
        }
    }

    /** The laid data, the global variables, and what data are to one another. */
    private static final class Store {
        private final Heap heap;
        private final int[] cells;
        private final int[] firsts;
        private final int[] rests;
        int count;
        private final int[] meanings;
        private final Row contents; // and behind those of the symbols a tree of the global variables
        int changes; // of keywords and macros

        Store(Heap heap) {
            this.heap = heap;
            cells = new int[MAX_DATA];
            firsts = new int[MAX_DATA];
            rests = new int[MAX_DATA];
            meanings = new int[SYMBOLS];
            contents = heap.newRoots(SYMBOLS + 1);
            for (int symbol = 0; symbol < SYMBOLS; symbol++) {
                heap.keep(heap.make(SYMBOL, 0, symbol, 0, 0));
            }
            heap.keep(heap.make(TRUTH, 0, 0, 0, 0));
            heap.keep(heap.make(TRUTH, 0, 1, 0, 0));
            heap.keep(heap.make(EMPTY, 0, 0, 0, 0));
            heap.keep(heap.make(NOTHING, 0, 0, 0, 0));
            for (int symbol = FIRST_PRIMITIVE; symbol <= LAST_PRIMITIVE; symbol++) {
                heap.keep(heap.make(PRIMITIVE, 0, symbol, 0, 0));
            }
            for (int symbol = FIRST_PRIMITIVE; symbol <= LAST_PRIMITIVE; symbol++) {
                define(symbol, VARIABLE, PRIMITIVE_CELLS + symbol);
            }
            for (int symbol = QUOTE_SYMBOL; symbol <= SYNTAX_SYMBOL; symbol++) {
                meanings[symbol] = KEYWORD;
            }
        }

        boolean has(int datum) {
            return datum >= 0 && datum < count;
        }

        int cellOf(int datum) {
            return has(datum) && datum < cells.length ? cells[datum] : 0;
        }

        /** Gives a cell that is no pair the next number; -1 if there is none left. */
        int lay(int cell) {
            return layParts(cell, -1, -1);
        }

        /** The number of a new pair; -1 if it would be too many, too deep or too large. */
        int layPair(int first, int rest) {
            int cell = count < MAX_DATA ? pairOf(cellOf(first), cellOf(rest), MAX_LAID_DEPTH) : 0;
            return layParts(cell, first, rest);
        }

        private int layParts(int cell, int first, int rest) {
            if (cell == 0 || count < 0 || count >= MAX_DATA) {
                return -1;
            }
            heap.keep(cell);
            cells[count] = cell;
            firsts[count] = first;
            rests[count] = rest;
            count++;
            return count - 1;
        }

        int partOf(int datum, boolean isFirst) {
            if (!has(datum) || datum >= MAX_DATA) {
                return -1;
            }
            return isFirst ? firsts[datum] : rests[datum];
        }

        long amountOf(int datum) {
            return heap.at(cellOf(datum), AMOUNT);
        }

        int firstFieldOf(int cell) {
            return heap.at(cell, AMOUNT);
        }

        double quotientOf(int datum) {
            int denominator = heap.at(cellOf(datum), DENOMINATOR);
            return denominator == 0 ? 0.0 : (double) heap.at(cellOf(datum), AMOUNT) / (double) denominator;
        }

        char letterOf(int cell) {
            switch (heap.kindOf(cell)) {
                case NUMBER:
                    return 'n';
                case SYMBOL:
                case RENAMED:
                    return 's';
                case TRUTH:
                    return 't';
                case EMPTY:
                    return 'e';
                case PAIR:
                case VIEW:
                    return 'p';
                case CLOSURE:
                    return 'c';
                case PRIMITIVE:
                    return 'f';
                case CONTINUATION:
                    return 'k';
                default:
                    return 'u';
            }
        }

        boolean areDataSound() {
            for (int datum = 0; datum < count && datum < MAX_DATA; datum++) {
                int cell = cells[datum];
                int cellKind = heap.kindOf(cell);
                if (cellKind == NUMBER && !isInLowestTerms(heap.at(cell, AMOUNT), heap.at(cell, DENOMINATOR))) {
                    return false;
                }
                if (cellKind == PAIR && !arePartsLower(datum)) {
                    return false;
                }
            }
            return true;
        }

        private boolean arePartsLower(int datum) {
            int first = partOf(datum, true);
            int rest = partOf(datum, false);
            return first >= 0 && first < datum && rest >= 0 && rest < datum;
        }

        private static boolean isInLowestTerms(int numerator, int denominator) {
            return denominator >= 1
                    && denominator <= MAX_AMOUNT
                    && numerator >= -MAX_AMOUNT
                    && numerator <= MAX_AMOUNT
                    && commonDivisor(numerator, denominator) == 1;
        }

        /** The greatest common divisor of two numbers that are not both 0. */
        private static long commonDivisor(long one, long other) {
            long a = one < 0 ? -one : one;
            long b = other < 0 ? -other : other;
            for (int i = 0; i < 200 && b != 0; i++) {
                long remainder = a % b;
                a = b;
                b = remainder;
            }
            return a == 0 ? 1 : a;
        }

        /** Whether there is such a number, in lowest terms, and it is in range. */
        static boolean fits(long numerator, long denominator) {
            if (denominator == 0) {
                return false;
            }
            long divisor = commonDivisor(numerator, denominator);
            long top = numerator / divisor;
            long bottom = denominator / divisor;
            return top >= -MAX_AMOUNT && top <= MAX_AMOUNT && bottom >= -MAX_AMOUNT && bottom <= MAX_AMOUNT;
        }

        /** A new number in lowest terms; 0 if there is none or it is out of range. */
        int fraction(long numerator, long denominator) {
            if (denominator == 0) {
                return 0;
            }
            long divisor = commonDivisor(numerator, denominator);
            long signed = denominator < 0 ? -divisor : divisor;
            long top = numerator / signed;
            long bottom = denominator / signed;
            if (top < -MAX_AMOUNT || top > MAX_AMOUNT || bottom > MAX_AMOUNT) {
                return 0;
            }
            return heap.make(NUMBER, 0, (int) top, (int) bottom, 0);
        }

        int measureOf(int cell) {
            switch (heap.kindOf(cell)) {
                case PAIR:
                    return heap.at(cell, MEASURE);
                case RENAMED:
                    return MEASURE_OF_ONE | RENAMED_INSIDE;
                default:
                    return MEASURE_OF_ONE;
            }
        }

        /** A new pair with its measure; 0 if it would be too deep or too large. */
        int pairOf(int first, int rest, int deepest) {
            int one = measureOf(first);
            int other = measureOf(rest);
            int size = (one & SIZE_MASK) + (other & SIZE_MASK) + 1;
            int depth = Math.max((one >> DEPTH_SHIFT & DEPTH_MASK) + 1, other >> DEPTH_SHIFT & DEPTH_MASK);
            if (size > MAX_SIZE || depth > deepest) {
                return 0;
            }
            return heap.make(PAIR, 0, first, rest, (one | other) & RENAMED_INSIDE | depth << DEPTH_SHIFT | size);
        }

        boolean isName(int cell) {
            int cellKind = heap.kindOf(cell);
            return cellKind == SYMBOL || cellKind == RENAMED;
        }

        /** The symbol of a name; -1 if it is none. */
        int symbolOf(int cell) {
            int name = cell;
            for (int i = 0; i < MAX_CELLS && heap.kindOf(name) == RENAMED; i++) {
                name = heap.at(name, UNDER);
            }
            return heap.kindOf(name) == SYMBOL ? heap.at(name, AMOUNT) : -1;
        }

        /** The first cell of a row whose item is the same name as this one; 0 if there is none. */
        int find(int name, int row) {
            int cell = row;
            for (int i = 0; i < MAX_CELLS && cell != 0; i++) {
                int a = heap.at(cell, ITEM);
                int b = name;
                for (int j = 0;
                        j < MAX_CELLS
                                && a != b
                                && heap.kindOf(a) == RENAMED
                                && heap.kindOf(b) == RENAMED
                                && heap.at(a, STAMP) == heap.at(b, STAMP);
                        j++) {
                    a = heap.at(a, UNDER);
                    b = heap.at(b, UNDER);
                }
                if (a == b) {
                    return cell;
                }
                cell = heap.at(cell, NEXT);
            }
            return 0;
        }

        /** The number of parts of a list; -1 if it does not end with the empty list. */
        int lengthOf(int list) {
            int length = 0;
            int cell = list;
            for (int i = 0; i < MAX_CELLS && heap.kindOf(cell) == PAIR; i++) {
                cell = heap.at(cell, REST);
                length++;
            }
            return heap.kindOf(cell) == EMPTY ? length : -1;
        }

        /** Whether the primitive 21 holds for data that are laid. */
        boolean areSame(int cell, int other) {
            if (cell == other) {
                return true;
            }
            return heap.kindOf(cell) == NUMBER
                    && heap.kindOf(other) == NUMBER
                    && heap.at(cell, AMOUNT) == heap.at(other, AMOUNT)
                    && heap.at(cell, DENOMINATOR) == heap.at(other, DENOMINATOR);
        }

        boolean areShapedAlike(int cell, int other) {
            return haveOneShape(cell, other, 0);
        }

        private boolean haveOneShape(int cell, int other, int level) {
            int a = cell;
            int b = other;
            for (int i = 0; i < MAX_SIZE && heap.kindOf(a) == PAIR && heap.kindOf(b) == PAIR; i++) {
                boolean areFirstsAlike =
                        level < MAX_LEVEL && haveOneShape(heap.at(a, FIRST), heap.at(b, FIRST), level + 1);
                if (!areFirstsAlike) {
                    return false;
                }
                a = heap.at(a, REST);
                b = heap.at(b, REST);
            }
            return areSame(a, b);
        }

        int meaningOf(int symbol) {
            return symbol >= 0 && symbol < meanings.length ? meanings[symbol] : UNKNOWN;
        }

        /** The value of a global variable; 0 if there is none. */
        int globalValue(int symbol) {
            return meaningOf(symbol) == VARIABLE ? contents.get(symbol) : 0;
        }

        /** The global variables as they are now: a tree by their symbols. */
        int globals() {
            return contents.get(SYMBOLS);
        }

        /** The literals and rules of a macro; 0 if it is none. */
        int rulesOf(int symbol) {
            return meaningOf(symbol) == MACRO ? contents.get(symbol) : 0;
        }

        void define(int symbol, int newMeaning, int content) {
            if (symbol < 0 || symbol >= meanings.length) {
                return;
            }
            changes += newMeaning == MACRO || meanings[symbol] == MACRO || meanings[symbol] == KEYWORD ? 1 : 0;
            meanings[symbol] = newMeaning;
            contents.put(symbol, content);
            if (newMeaning == VARIABLE) {
                contents.put(SYMBOLS, heap.withLeaf(globals(), symbol, content));
            }
        }
    }

    /** The text, and data and expanded programs written into it; what would be too long leaves it as it was. */
    private static final class Writer {
        // What is still to be written: a datum, what follows behind a part of a list, the form in a slot of a node, the
        // forms from a slot on, ")". With a slot its number stands beside.
        private static final int DATUM = 0;
        private static final int TAIL = 1;
        private static final int FORM = 2;
        private static final int FORMS = 3;
        private static final int CLOSE = 4;
        private static final int JOB_MASK = 7;
        private static final int MAX_JOBS = 2048;

        private final Heap heap;
        private final Code code;
        private final Values values;
        private final char[] text;
        int length;
        private final char[] draft;
        private int drafted;
        private final Row jobs;
        private final Row subjects;
        private int waiting;

        Writer(Heap heap, Code code, Values values) {
            this.heap = heap;
            this.code = code;
            this.values = values;
            text = new char[MAX_TEXT];
            draft = new char[MAX_TEXT];
            jobs = new Row(MAX_JOBS);
            subjects = new Row(MAX_JOBS);
        }

        char signAt(int index) {
            return index >= 0 && index < length && index < text.length ? text[index] : ' ';
        }

        int append(char sign) {
            if (length >= 0 && length < text.length) {
                text[length] = sign;
                length++;
            }
            return length;
        }

        int forget() {
            int before = length;
            length = 0;
            return before;
        }

        /** Writes a datum, or the code of a program: the length of the text; -1 if it would be too long. */
        int putAll(boolean isProgram, int subject) {
            drafted = 0;
            waiting = 0;
            later(isProgram ? FORM : DATUM, subject, 0);
            for (int i = 0; i < MAX_CELLS && waiting > 0 && drafted <= MAX_TEXT; i++) {
                waiting--;
                int next = subjects.get(waiting);
                int index = jobs.get(waiting) / (JOB_MASK + 1);
                switch (jobs.get(waiting) & JOB_MASK) {
                    case DATUM:
                        startDatum(next);
                        break;
                    case TAIL:
                        putTail(next);
                        break;
                    case FORM:
                        startForm(next, code.slotOf(next, index));
                        break;
                    case FORMS:
                        putForms(next, index);
                        break;
                    default:
                        put(')');
                }
            }
            if (drafted > MAX_TEXT) {
                return -1;
            }
            System.arraycopy(draft, 0, text, 0, drafted);
            length = drafted;
            return length;
        }

        private void later(int job, int subject, int index) {
            jobs.put(waiting, job + index * (JOB_MASK + 1));
            subjects.put(waiting, subject);
            waiting++;
        }

        private void put(char sign) {
            if (drafted >= 0 && drafted < draft.length) {
                draft[drafted] = sign;
            }
            drafted++;
        }

        private void putWord(String word) {
            for (int i = 0; i < word.length(); i++) {
                put(word.charAt(i));
            }
        }

        private void putNumber(int number) {
            long rest = number;
            if (rest < 0) {
                put('-');
                rest = -rest;
            }
            boolean isBegun = false;
            for (long unit = 1000000000L; unit >= 1; unit /= 10) {
                long digit = rest / unit % 10;
                isBegun = isBegun || digit != 0 || unit == 1;
                if (isBegun) {
                    put((char) ('0' + digit));
                }
            }
        }

        private void putNamed(char sign, int number) {
            put(sign);
            putNumber(number);
        }

        private void startDatum(int cell) {
            switch (heap.kindOf(cell)) {
                case NUMBER:
                    putNumber(heap.at(cell, AMOUNT));
                    if (heap.at(cell, DENOMINATOR) != 1) {
                        put('/');
                        putNumber(heap.at(cell, DENOMINATOR));
                    }
                    break;
                case SYMBOL:
                    putNamed('s', heap.at(cell, AMOUNT));
                    break;
                case TRUTH:
                    putWord(cell == TRUE_CELL ? "#t" : "#f");
                    break;
                case EMPTY:
                    putWord("()");
                    break;
                case PAIR:
                case VIEW:
                    put('(');
                    later(TAIL, values.restOf(cell), 0);
                    later(DATUM, values.firstOf(cell), 0);
                    break;
                case CLOSURE:
                    putWord("#c");
                    break;
                case PRIMITIVE:
                    putWord("#p");
                    putNumber(heap.at(cell, AMOUNT));
                    break;
                case CONTINUATION:
                    putWord("#k");
                    break;
                default:
                    putWord("#u");
            }
        }

        private void putTail(int cell) {
            int cellKind = heap.kindOf(cell);
            if (cellKind == EMPTY) {
                put(')');
            } else if (cellKind == PAIR || cellKind == VIEW) {
                put(' ');
                later(TAIL, values.restOf(cell), 0);
                later(DATUM, values.firstOf(cell), 0);
            } else {
                putWord(" . ");
                later(CLOSE, 0, 0);
                later(DATUM, cell, 0);
            }
        }

        private void putForms(int node, int index) {
            if (index >= code.countOf(node)) {
                put(')');
            } else {
                put(' ');
                later(FORMS, node, index + 1);
                later(FORM, node, index);
            }
        }

        private void startForm(int node, int slot) {
            int content = Code.contentOf(slot);
            switch (Code.tagOf(slot)) {
                case CONSTANT:
                    later(DATUM, content, 0);
                    break;
                case QUOTATION:
                    putWord("(quote ");
                    later(CLOSE, 0, 0);
                    later(DATUM, content, 0);
                    break;
                case LOCAL:
                    putVariable(node, slot);
                    break;
                case GLOBAL:
                    putNamed('s', content);
                    break;
                default:
                    startNode(content);
            }
        }

        private void putVariable(int node, int slot) {
            int binder = code.binderOf(node, Code.depthOf(slot));
            putNamed('x', Code.firstVariable(code.infoOf(binder)) + Code.placeOf(slot));
        }

        private void startNode(int node) {
            int info = code.infoOf(node);
            int first = 0;
            switch (code.kindOf(node)) {
                case CALL:
                    put('(');
                    first = 1;
                    break;
                case LAMBDA:
                    putWord("(lambda ");
                    putParameters(info);
                    break;
                case BRANCH:
                    putWord("(if");
                    break;
                case SET_LOCAL:
                    putWord("(set ");
                    putVariable(node, info);
                    break;
                case SET_GLOBAL:
                    putWord("(set ");
                    putNamed('s', info);
                    break;
                case DEFINITION:
                    putWord("(define ");
                    putNamed('s', info);
                    break;
                case SYNTAX:
                    putWord("(define-syntax ");
                    putNamed('s', info);
                    break;
                default:
                    putWord("(begin");
            }
            later(FORMS, node, first);
            if (first == 1) {
                later(FORM, node, 0);
            }
        }

        private void putParameters(int info) {
            int parameters = Code.parametersOf(info);
            int firstOne = Code.firstVariable(info);
            if (parameters == 0 && Code.hasRest(info)) {
                putNamed('x', firstOne);
                return;
            }
            put('(');
            for (int i = 0; i < parameters && drafted <= MAX_TEXT; i++) {
                if (i > 0) {
                    put(' ');
                }
                putNamed('x', firstOne + i);
            }
            if (Code.hasRest(info)) {
                putWord(" . ");
                putNamed('x', firstOne + parameters);
            }
            put(')');
        }
    }

    /** Takes the text apart, looks whether it is one datum, and lays it. */
    private static final class Reader {
        private static final int MAX_DIGITS = 18;

        // The pieces: '(', ')', '.', 'n' a number, 's' a symbol, 't' a truth.
        private final char[] pieces;
        private final long[] tops;
        private final long[] bottoms;
        private int pieceCount;
        int needed;
        // The lists that are open: how far each one is, the depth of its parts, where its parts begin.
        private final Row stages;
        private final Row depths;
        private final Row parts;
        private int open;

        Reader() {
            pieces = new char[MAX_TEXT];
            tops = new long[MAX_TEXT];
            bottoms = new long[MAX_TEXT];
            stages = new Row(MAX_TEXT + 1);
            depths = new Row(MAX_TEXT + 1);
            parts = new Row(MAX_TEXT + 1);
        }

        /** Whether the text is one datum that is not too deep; then needed is how many data it would lay. */
        boolean takes(Writer text) {
            return isSplit(text) && isOneDatum();
        }

        private boolean isSplit(Writer text) {
            pieceCount = 0;
            int index = 0;
            for (int i = 0; i < MAX_TEXT && index < text.length; i++) {
                char sign = text.signAt(index);
                int end = index + 1;
                if (sign == '(' || sign == ')') {
                    addPiece(sign, 0, 1);
                } else if (sign != ' ') {
                    end = endOfPiece(text, index);
                    if (!isPiece(text, index, end)) {
                        return false;
                    }
                }
                index = end;
            }
            return true;
        }

        private static int endOfPiece(Writer text, int start) {
            for (int i = start; i < text.length; i++) {
                char sign = text.signAt(i);
                if (sign == ' ' || sign == '(' || sign == ')') {
                    return i;
                }
            }
            return text.length;
        }

        private void addPiece(char piece, long top, long bottom) {
            if (pieceCount >= 0 && pieceCount < MAX_TEXT) {
                pieces[pieceCount] = piece;
                tops[pieceCount] = top;
                bottoms[pieceCount] = bottom;
                pieceCount++;
            }
        }

        private boolean isPiece(Writer text, int start, int end) {
            char sign = text.signAt(start);
            if (sign == '.') {
                addPiece('.', 0, 1);
                return end == start + 1;
            }
            if (sign == '#') {
                char letter = end == start + 2 ? text.signAt(start + 1) : ' ';
                addPiece('t', letter == 't' ? 1 : 0, 1);
                return letter == 't' || letter == 'f';
            }
            if (sign == 's') {
                long symbol = digits(text, start + 1, end);
                addPiece('s', symbol, 1);
                return symbol >= 0 && symbol < SYMBOLS;
            }
            return isNumber(text, start, end);
        }

        private boolean isNumber(Writer text, int start, int end) {
            boolean isNegative = text.signAt(start) == '-';
            int slash = end;
            for (int i = end - 1; i >= start; i--) {
                if (text.signAt(i) == '/') {
                    slash = i;
                }
            }
            long top = digits(text, isNegative ? start + 1 : start, slash);
            long bottom = slash == end ? 1 : digits(text, slash + 1, end);
            if (top < 0 || bottom < 0) {
                return false;
            }
            addPiece('n', isNegative ? -top : top, bottom);
            return Store.fits(top, bottom);
        }

        /** The number that 1 to 18 digits are; -1 if they are none. */
        private static long digits(Writer text, int start, int end) {
            if (end <= start || end - start > MAX_DIGITS) {
                return -1;
            }
            long number = 0;
            for (int i = start; i < end; i++) {
                char sign = text.signAt(i);
                if (sign < '0' || sign > '9') {
                    return -1;
                }
                number = number * 10 + (sign - '0');
            }
            return number;
        }

        // The stages of an open list: 0 without parts, 1 with parts, 2 behind a point, 3 behind what ends it.
        // At the bottom lies the whole text: it is at stage 2 as long as its one datum is missing.
        private boolean isOneDatum() {
            open = 0;
            needed = 0;
            stages.put(0, 2);
            for (int i = 0; i < pieceCount && i < MAX_TEXT; i++) {
                boolean isRight;
                switch (pieces[i]) {
                    case '(':
                        open++;
                        stages.put(open, 0);
                        depths.put(open, 1);
                        isRight = true;
                        break;
                    case ')':
                        isRight = closes();
                        break;
                    case '.':
                        isRight = stages.get(open) == 1;
                        stages.put(open, 2);
                        break;
                    default:
                        needed++;
                        isRight = takesPart(1);
                }
                if (!isRight) {
                    return false;
                }
            }
            return open == 0 && stages.get(0) == 3;
        }

        private boolean takesPart(int depth) {
            int stage = stages.get(open);
            boolean isEnd = stage == 2;
            stages.put(open, isEnd ? 3 : 1);
            depths.put(open, Math.max(depths.get(open), isEnd ? depth : depth + 1));
            if (!isEnd) {
                needed++;
            }
            return stage != 3 && depth <= MAX_LAID_DEPTH;
        }

        private boolean closes() {
            int stage = stages.get(open);
            if (open == 0 || stage == 2) {
                return false;
            }
            if (stage != 3) {
                needed++;
            }
            int depth = depths.get(open);
            open--;
            return takesPart(depth);
        }

        /** Lays the datum that was looked at; its number, or -1 if there is no room. */
        int layAll(Store store) {
            open = 0;
            int top = 0;
            for (int i = 0; i < pieceCount && i < MAX_TEXT; i++) {
                switch (pieces[i]) {
                    case '(':
                        open++;
                        stages.put(open, 0);
                        depths.put(open, top);
                        break;
                    case ')':
                        int start = depths.get(open);
                        parts.put(start, layList(store, start, top));
                        top = start + 1;
                        open--;
                        break;
                    case '.':
                        stages.put(open, 2);
                        break;
                    default:
                        parts.put(top, layPiece(store, i));
                        top++;
                }
            }
            return parts.get(0);
        }

        private int layList(Store store, int start, int top) {
            boolean isDotted = stages.get(open) == 2;
            int last = isDotted ? top - 1 : top;
            int list = isDotted ? parts.get(last) : store.lay(EMPTY_CELL);
            for (int i = last - 1; i >= start; i--) {
                list = store.layPair(parts.get(i), list);
            }
            return list;
        }

        private int layPiece(Store store, int index) {
            if (index < 0 || index >= MAX_TEXT) {
                return -1;
            }
            long top = tops[index];
            switch (pieces[index]) {
                case 's':
                    return store.lay(FIRST_SYMBOL_CELL + (int) top);
                case 't':
                    return store.lay(top == 1 ? TRUE_CELL : FALSE_CELL);
                default:
                    return store.lay(store.fraction(top, bottoms[index]));
            }
        }
    }

    /** Macros: whether their patterns are right, what they match, and what templates come to. */
    private static final class Macros {
        private final Heap heap;
        private final Store store;
        private long literals;
        private int scope;
        private boolean isTrial;
        int matches;
        private int stamp;
        private int size;
        private int rows;
        private int rowLength;
        private boolean areRowsEven;

        Macros(Heap heap, Store store) {
            this.heap = heap;
            this.store = store;
        }

        /** Whether this is a list of literals and of rules with right patterns. */
        boolean areRules(int definition) {
            if (heap.kindOf(definition) != PAIR || !areLiterals(heap.at(definition, FIRST))) {
                return false;
            }
            int rules = heap.at(definition, REST);
            for (int i = 0; i < MAX_SIZE && heap.kindOf(rules) == PAIR; i++) {
                int rule = heap.at(rules, FIRST);
                int pattern = heap.at(rule, FIRST);
                matches = 0;
                if (store.lengthOf(rule) != 2
                        || heap.kindOf(pattern) != PAIR
                        || !collects(heap.at(pattern, REST), 0)) {
                    return false;
                }
                rules = heap.at(rules, REST);
            }
            return true;
        }

        /** Whether this is a list of names; they become the literals. */
        private boolean areLiterals(int list) {
            literals = 0;
            int cell = list;
            for (int i = 0; i < MAX_SIZE && heap.kindOf(cell) == PAIR; i++) {
                int symbol = store.symbolOf(heap.at(cell, FIRST));
                if (symbol < 0) {
                    return false;
                }
                literals |= 1L << symbol;
                cell = heap.at(cell, REST);
            }
            return heap.kindOf(cell) == EMPTY;
        }

        private boolean isLiteral(int symbol) {
            return symbol >= 0 && (literals >> symbol & 1) != 0;
        }

        private boolean isRowEnd(int cell) {
            return heap.kindOf(cell) == PAIR
                    && heap.kindOf(heap.at(cell, REST)) == EMPTY
                    && store.symbolOf(heap.at(cell, FIRST)) == ELLIPSIS_SYMBOL;
        }

        /** Puts each variable of a pattern, with an empty row, ahead of the matches; whether the pattern is right. */
        private boolean collects(int pattern, int level) {
            if (level > MAX_LEVEL) {
                return false;
            }
            int cell = pattern;
            for (int i = 0; i < MAX_SIZE && heap.kindOf(cell) == PAIR; i++) {
                if (!collects(heap.at(cell, FIRST), level + 1)) {
                    return false;
                }
                cell = heap.at(cell, REST);
                if (isRowEnd(cell)) {
                    return true;
                }
            }
            int symbol = store.symbolOf(cell);
            if (symbol < 0 || symbol == BLANK_SYMBOL || isLiteral(symbol)) {
                return true;
            }
            if (symbol == ELLIPSIS_SYMBOL || store.find(cell, matches) != 0) {
                return false;
            }
            matches = heap.make(MATCH, 0, cell, matches, heap.make(ROW, 0, 0, 0, 0));
            return true;
        }

        /** The template of the first rule that fits; 0 if there is none. Then matches are its variables. */
        int fittingTemplate(int definition, int form, int scopeOfForm) {
            if (!areLiterals(heap.at(definition, FIRST))) {
                return 0;
            }
            scope = scopeOfForm;
            int rules = heap.at(definition, REST);
            for (int i = 0; i < MAX_SIZE && heap.kindOf(rules) == PAIR; i++) {
                int rule = heap.at(rules, FIRST);
                int pattern = heap.at(heap.at(rule, FIRST), REST);
                matches = 0;
                // Just the rule that fits makes cells for what it matches.
                isTrial = true;
                boolean isFitting = isMatch(pattern, heap.at(form, REST), 0);
                isTrial = false;
                if (isFitting && isMatch(pattern, heap.at(form, REST), 0)) {
                    return heap.at(heap.at(rule, REST), FIRST);
                }
                rules = heap.at(rules, REST);
            }
            return 0;
        }

        private boolean isMatch(int pattern, int form, int level) {
            if (level > MAX_LEVEL) {
                return false;
            }
            int cell = pattern;
            int part = form;
            for (int i = 0; i < MAX_SIZE && heap.kindOf(cell) == PAIR; i++) {
                int item = heap.at(cell, FIRST);
                cell = heap.at(cell, REST);
                if (isRowEnd(cell)) {
                    // Each part of the list is matched by itself; the variables get rows of what they match.
                    int around = matches;
                    matches = 0;
                    boolean isRight = isTrial || collects(item, level + 1);
                    int rows = matches;
                    for (int j = 0; j < MAX_SIZE && isRight && heap.kindOf(part) == PAIR; j++) {
                        matches = 0;
                        isRight = isMatch(item, heap.at(part, FIRST), level + 1);
                        addItems(rows);
                        part = heap.at(part, REST);
                    }
                    matches = joined(rows, around);
                    return isRight && heap.kindOf(part) == EMPTY;
                }
                if (heap.kindOf(part) != PAIR || !isMatch(item, heap.at(part, FIRST), level + 1)) {
                    return false;
                }
                part = heap.at(part, REST);
            }
            return isPlainMatch(cell, part);
        }

        /** Whether a pattern that is no pair matches. */
        private boolean isPlainMatch(int pattern, int part) {
            int symbol = store.symbolOf(pattern);
            if (symbol < 0) {
                return store.areSame(pattern, part);
            }
            if (symbol == BLANK_SYMBOL) {
                return true;
            }
            if (isLiteral(symbol)) {
                return store.symbolOf(part) == symbol && store.find(part, scope) == 0;
            }
            matches = isTrial ? 0 : heap.make(MATCH, 0, pattern, matches, part);
            return true;
        }

        // The variables stand in the same order in the rows and in the matches, as both come from one pattern.
        private void addItems(int rows) {
            int match = matches;
            int named = rows;
            for (int i = 0; i < MAX_SIZE && match != 0 && named != 0; i++) {
                int row = heap.at(named, EXTRA);
                int link = heap.make(LINK, 0, heap.at(match, EXTRA), 0, 0);
                if (heap.at(row, ITEM) == 0) {
                    heap.put(row, ITEM, link);
                } else {
                    heap.put(heap.at(row, NEXT), NEXT, link);
                }
                heap.put(row, NEXT, link);
                heap.put(row, EXTRA, heap.at(row, EXTRA) + 1);
                match = heap.at(match, NEXT);
                named = heap.at(named, NEXT);
            }
        }

        private int joined(int rows, int around) {
            if (rows == 0) {
                return around;
            }
            int last = rows;
            for (int i = 0; i < MAX_SIZE && heap.at(last, NEXT) != 0; i++) {
                last = heap.at(last, NEXT);
            }
            heap.put(last, NEXT, around);
            return rows;
        }

        /** What a template comes to, by a new mark; 0 if it is wrong. */
        int filled(int template, int matches) {
            stamp++;
            size = 0;
            return build(template, matches, 0);
        }

        private int build(int template, int matches, int level) {
            if (level > MAX_LEVEL) {
                return 0;
            }
            int parts = 0;
            int cell = template;
            for (int i = 0; i < MAX_SIZE && heap.kindOf(cell) == PAIR; i++) {
                int part = heap.at(cell, FIRST);
                cell = heap.at(cell, REST);
                if (isEllipsisAhead(cell)) {
                    cell = heap.at(cell, REST);
                    parts = buildRow(part, matches, parts, level + 1);
                } else {
                    parts = added(build(part, matches, level + 1), parts);
                }
                if (parts < 0) {
                    return 0;
                }
            }
            int whole = leaf(cell, matches);
            for (int i = 0; i < MAX_SIZE && parts != 0 && whole != 0; i++) {
                whole = store.pairOf(heap.at(parts, ITEM), whole, MAX_MADE_DEPTH);
                parts = heap.at(parts, NEXT);
            }
            return whole;
        }

        private boolean isEllipsisAhead(int cell) {
            return heap.kindOf(cell) == PAIR && store.symbolOf(heap.at(cell, FIRST)) == ELLIPSIS_SYMBOL;
        }

        /** The parts with one more; -1 if it is wrong or there is too much of it. */
        private int added(int part, int parts) {
            size++;
            return part == 0 || size > MAX_SIZE ? -1 : heap.make(LINK, 0, part, parts, 0);
        }

        private int leaf(int cell, int matches) {
            int made = cell;
            if (store.isName(cell)) {
                int match = store.find(cell, matches);
                made = match != 0 ? heap.at(match, EXTRA) : heap.make(RENAMED, 0, cell, stamp, 0);
            }
            size += store.measureOf(made) & SIZE_MASK;
            return heap.kindOf(made) == ROW || size > MAX_SIZE ? 0 : made;
        }

        /** The parts with those that a template comes to for the items of its rows; -1 if that is wrong. */
        private int buildRow(int template, int matches, int before, int level) {
            rows = 0;
            areRowsEven = true;
            addRows(template, matches, level);
            int named = rows;
            if (named == 0 || !areRowsEven) {
                return -1;
            }
            int count = rowLength;
            int parts = before;
            for (int i = 0; i < count && parts >= 0; i++) {
                parts = added(build(template, withItems(named, matches), level), parts);
            }
            return parts;
        }

        /** The matches with the next item of each row ahead of them. */
        private int withItems(int named, int matches) {
            int inner = matches;
            int row = named;
            for (int i = 0; i < MAX_SIZE && row != 0; i++) {
                int link = heap.at(row, EXTRA);
                inner = heap.make(MATCH, 0, heap.at(row, ITEM), inner, heap.at(link, ITEM));
                heap.put(row, EXTRA, heap.at(link, NEXT));
                row = heap.at(row, NEXT);
            }
            return inner;
        }

        /** Puts the variables in a template that are rows ahead of the rows, each with its first link. */
        private void addRows(int template, int matches, int level) {
            int cell = template;
            for (int i = 0; i < MAX_SIZE && heap.kindOf(cell) == PAIR && level <= MAX_LEVEL; i++) {
                addRows(heap.at(cell, FIRST), matches, level + 1);
                cell = heap.at(cell, REST);
            }
            int row = store.isName(cell) ? heap.at(store.find(cell, matches), EXTRA) : 0;
            if (heap.kindOf(row) == ROW && store.find(cell, rows) == 0) {
                int length = heap.at(row, EXTRA);
                areRowsEven = areRowsEven && (rows == 0 || rowLength == length);
                rowLength = length;
                rows = heap.make(MATCH, 0, cell, rows, heap.at(row, ITEM));
            }
        }
    }

    /** Makes code of programs. The forms that are around the one at hand are a stack, one level for each. */
    private static final class Expander {
        private static final int LEVELS = 104;

        private final Heap heap;
        private final Store store;
        private final Code code;
        private final Macros macros;
        // For each level: the forms that are still to be expanded, the names that are bound there, what came out of a
        // macro in place of the form at hand, the node to which the forms belong, and the slot of the next one.
        private final Row lists;
        private final Row scopes;
        private final Row outcomes;
        private final Row nodes;
        private final Row slots;
        private int level;
        int used;
        char letter; // what was wrong
        private int variables;

        Expander(Heap heap, Store store, Code code) {
            this.heap = heap;
            this.store = store;
            this.code = code;
            macros = new Macros(heap, store);
            lists = heap.newRoots(LEVELS);
            scopes = heap.newRoots(LEVELS);
            outcomes = heap.newRoots(LEVELS);
            nodes = new Row(LEVELS);
            slots = new Row(LEVELS);
        }

        /** The code of a program; 0 if it is wrong. Then used tells how many expansions of macros there were. */
        int expand(int program) {
            used = 0;
            variables = 0;
            level = -1;
            letter = 'x';
            code.open();
            int root = code.newNode(PROGRAM, 1, 0, 0, 0);
            openLevel(EMPTY_CELL, 0, root);
            outcomes.put(0, program);
            boolean isRight = hasRoom(root != 0);
            for (int i = 0; i < MAX_STEPS && isRight && level >= 0; i++) {
                if (heap.isDue() || heap.isFull()) {
                    heap.collect();
                }
                int form = nextForm();
                int symbol = keywordOrMacro(form);
                if (!hasRoom(!heap.isFull())) {
                    isRight = false;
                } else if (form == 0) {
                    level--;
                } else if (store.meaningOf(symbol) == MACRO) {
                    int template = macros.fittingTemplate(store.rulesOf(symbol), form, scopes.get(level));
                    isRight = template != 0 && used < MAX_EXPANSIONS;
                    used += isRight ? 1 : 0;
                    outcomes.put(level, isRight ? macros.filled(template, macros.matches) : 0);
                    isRight = outcomes.get(level) != 0;
                } else {
                    // Nothing that stands in a slot is 0, as there is no node and no cell 0.
                    int here = level;
                    int slot = symbol >= 0 ? keywordForm(symbol, form) : plainForm(form);
                    code.setSlot(nodes.get(here), slots.get(here), slot);
                    slots.put(here, slots.get(here) + 1);
                    isRight = slot != 0;
                }
            }
            lists.fillWithZeros();
            scopes.fillWithZeros();
            outcomes.fillWithZeros();
            if (isRight) {
                code.close();
            } else {
                code.drop();
            }
            return isRight ? root : 0;
        }

        /** Takes back the code that was made last. */
        void forget() {
            code.drop();
        }

        private boolean hasRoom(boolean isSo) {
            letter = isSo ? letter : 'o';
            return isSo;
        }

        private void openLevel(int forms, int scope, int node) {
            level++;
            lists.put(level, forms);
            scopes.put(level, scope);
            outcomes.put(level, 0);
            nodes.put(level, node);
            slots.put(level, 0);
        }

        /** The next form of the level; 0 if there is none. */
        private int nextForm() {
            int outcome = outcomes.get(level);
            if (outcome != 0) {
                outcomes.put(level, 0);
                return outcome;
            }
            int list = lists.get(level);
            if (heap.kindOf(list) != PAIR) {
                return 0;
            }
            lists.put(level, heap.at(list, REST));
            return heap.at(list, FIRST);
        }

        /** The symbol of the first part of a list, if it is a global name and a keyword or a macro; otherwise -1. */
        private int keywordOrMacro(int form) {
            if (heap.kindOf(form) != PAIR || store.lengthOf(form) < 0) {
                return -1;
            }
            int head = heap.at(form, FIRST);
            int symbol = store.find(head, scopes.get(level)) == 0 ? store.symbolOf(head) : -1;
            int meaning = store.meaningOf(symbol);
            return meaning == KEYWORD || meaning == MACRO ? symbol : -1;
        }

        /** The slot of a form without a keyword, while its parts are still to be expanded; 0 if it is wrong. */
        private int plainForm(int form) {
            int formKind = heap.kindOf(form);
            if (formKind == NUMBER || formKind == TRUTH) {
                return CONSTANT | form << 3;
            }
            int count = formKind == PAIR ? store.lengthOf(form) : -1;
            if (count >= 0) {
                return around(CALL, count, form, scopes.get(level), 0);
            }
            return store.isName(form) ? variable(form) : 0;
        }

        // A scope notes the place of its name among the parameters, whether that is the rest, and whether the scope is
        // the last one of its lambda, so that the next one belongs to a lambda further out.
        private int variable(int name) {
            int scope = scopes.get(level);
            int bound = store.find(name, scope);
            if (bound != 0) {
                int depth = 0;
                for (int i = 0; i < MAX_CELLS && scope != bound; i++) {
                    depth += heap.noteOf(scope) & 1;
                    scope = heap.at(scope, NEXT);
                }
                int note = heap.noteOf(bound);
                return Code.localSlot((note & 2) != 0, note >> 2, depth);
            }
            int symbol = store.symbolOf(name);
            int meaning = store.meaningOf(symbol);
            return meaning == KEYWORD || meaning == MACRO ? 0 : GLOBAL | symbol << 3;
        }

        /** The slot of a node for forms; 0 if they would be within too many others. */
        private int around(int nodeKind, int count, int forms, int scope, int info) {
            if (level >= MAX_FORMS_AROUND) {
                return 0;
            }
            int node = code.newNode(nodeKind, count, nodes.get(level), slots.get(level), info);
            openLevel(forms, scope, node);
            return hasRoom(node != 0) ? NODE | node << 3 : 0;
        }

        private int keywordForm(int keyword, int form) {
            int count = store.lengthOf(form) - 1;
            int parts = heap.at(form, REST);
            int scope = scopes.get(level);
            int first = heap.at(parts, FIRST);
            int behind = heap.at(parts, REST);
            boolean isWhole = level == 0;
            switch (keyword) {
                case QUOTE_SYMBOL:
                    return count == 1 ? QUOTATION | withoutMarks(first) << 3 : 0;
                case IF_SYMBOL:
                    return count == 2 || count == 3 ? around(BRANCH, count, parts, scope, 0) : 0;
                case LAMBDA_SYMBOL:
                    return count >= 2 ? lambdaForm(first, behind, count - 1) : 0;
                case DEFINE_SYMBOL:
                    return count == 2 && isWhole && store.isName(first)
                            ? around(DEFINITION, 1, behind, scope, store.symbolOf(first))
                            : 0;
                case SET_SYMBOL:
                    return count == 2 && store.isName(first) ? setForm(variable(first), behind) : 0;
                case BEGIN_SYMBOL:
                    return count >= 1 ? around(SEQUENCE, count, parts, scope, 0) : 0;
                default:
                    return count >= 2 && isWhole && store.isName(first) && macros.areRules(behind)
                            ? syntax(store.symbolOf(first), behind)
                            : 0;
            }
        }

        private int syntax(int symbol, int rules) {
            int node = code.newNode(SYNTAX, 0, nodes.get(level), slots.get(level), symbol);
            code.setMore(node, rules);
            code.keepQuoted(rules);
            return hasRoom(node != 0) ? NODE | node << 3 : 0;
        }

        private int setForm(int variable, int forms) {
            if (variable == 0) {
                return 0;
            }
            boolean isLocal = Code.tagOf(variable) == LOCAL;
            if (isLocal) {
                code.noteSet(code.binderOf(nodes.get(level), Code.depthOf(variable)), variable);
            }
            int target = isLocal ? variable : Code.contentOf(variable);
            return around(isLocal ? SET_LOCAL : SET_GLOBAL, 1, forms, scopes.get(level), target);
        }

        private int lambdaForm(int parameters, int body, int bodyCount) {
            int names = 0;
            int count = 0;
            int cell = parameters;
            for (int i = 0; i < MAX_SIZE && heap.kindOf(cell) == PAIR; i++) {
                int name = heap.at(cell, FIRST);
                if (!store.isName(name) || store.find(name, names) != 0) {
                    return 0;
                }
                names = heap.make(LINK, 0, name, names, 0);
                count++;
                cell = heap.at(cell, REST);
            }
            boolean hasRest = store.isName(cell);
            if (hasRest ? store.find(cell, names) != 0 : heap.kindOf(cell) != EMPTY) {
                return 0;
            }
            int outer = scopes.get(level);
            int scope = hasRest ? heap.make(SCOPE, count << 2 | 3, cell, outer, 0) : outer;
            for (int i = count - 1; i >= 0; i--) {
                scope = heap.make(SCOPE, i << 2 | (scope == outer ? 1 : 0), heap.at(names, ITEM), scope, 0);
                names = heap.at(names, NEXT);
            }
            int info = Code.lambdaInfo(count, hasRest, variables);
            variables += hasRest ? count + 1 : count;
            int slot = around(LAMBDA, bodyCount, body, scope, info);
            return slot == 0 ? 0 : CLOSED | slot;
        }

        /** A quoted datum with all marks taken off; each pair with a mark in it is made anew once. */
        private int withoutMarks(int datum) {
            int anew = heap.make(LINK, 0, 0, 0, 0);
            int plain = plainOf(datum, anew, 0);
            int link = heap.at(anew, NEXT);
            for (int i = 0; i < MAX_CELLS && link != 0; i++) {
                heap.setNote(heap.at(link, ITEM), 0);
                link = heap.at(link, NEXT);
            }
            code.keepQuoted(plain);
            return plain;
        }

        // A pair that has been made anew bears, until the form is done, a note of the new one.
        private int plainOf(int datum, int anew, int depth) {
            int pairs = 0;
            int cell = datum;
            for (int i = 0; i < MAX_SIZE && isToBeMadeAnew(cell); i++) {
                pairs = heap.make(LINK, 0, cell, pairs, 0);
                cell = heap.at(cell, REST);
            }
            int plain = heap.kindOf(cell) == RENAMED ? FIRST_SYMBOL_CELL + store.symbolOf(cell) : cell;
            if (heap.kindOf(cell) == PAIR && heap.noteOf(cell) != 0) {
                plain = heap.noteOf(cell);
            }
            for (int i = 0; i < MAX_SIZE && pairs != 0 && depth <= MAX_LEVEL; i++) {
                int old = heap.at(pairs, ITEM);
                plain = heap.make(PAIR, 0, plainOf(heap.at(old, FIRST), anew, depth + 1), plain, 0);
                heap.setNote(old, plain);
                heap.put(anew, NEXT, heap.make(LINK, 0, old, heap.at(anew, NEXT), 0));
                pairs = heap.at(pairs, NEXT);
            }
            return plain;
        }

        private boolean isToBeMadeAnew(int cell) {
            return heap.kindOf(cell) == PAIR
                    && (heap.at(cell, MEASURE) & RENAMED_INSIDE) != 0
                    && heap.noteOf(cell) == 0;
        }
    }

    /** What has happened in all runs. */
    private static final class Counts {
        long applications;
        long applicationsOfRun;
        long applicationsOfEnded;
        int expansions;
        int entered;
        int left;
        int jumps;
        int ended;
        int endedWithValue;
        int abandoned; // winds that were entered when a run ended with an error or another one was begun
    }

    /**
     * What variables, parts of calls and parts of lists come to, and the primitives that come to a value at once.
     *
     * <p>A part of a call that needs no call itself is not kept when it is evaluated. It is found again when it is asked
     * for: from the code, the environment, and the variables as they were. A VIEW is a list that looks like the parts of
     * a call from one on, or like another list, but is a list of its own: so nothing is copied.
     */
    private static final class Values {
        private static final int MAX_TESTS = 3;

        private final Heap heap;
        private final Store store;
        private final Code code;
        // What was around when the part that is looked for was evaluated.
        private int seenEnvironment;
        private int seenEvents;
        private int seenGlobals;
        private int seenSettings;
        private int seenTime;
        // Where the last value that was looked for is found: a part of the call of a frame.
        int spotFrame;
        int spotIndex;

        Values(Heap heap, Store store, Code code) {
            this.heap = heap;
            this.store = store;
            this.code = code;
        }

        /** Looks for parts of a call that is not applied yet. */
        void see(int environment, int events, int time) {
            seenEnvironment = environment;
            seenEvents = events;
            seenGlobals = store.globals();
            seenSettings = heap.at(environment, EXTRA);
            seenTime = time;
        }

        private void seeFrame(int frame) {
            int state = heap.at(frame, EXTRA);
            seenEnvironment = heap.at(state, ITEM);
            seenEvents = heap.at(state, NEXT);
            seenGlobals = heap.at(state, EXTRA);
            seenSettings = heap.noteOf(state);
            seenTime = heap.noteOf(frame);
        }

        /** Whether a part of a call that has just been evaluated can be found again. */
        boolean isFoundAgain(int call, int part) {
            int inner = Code.contentOf(code.slotOf(call, part));
            return code.kindOf(inner) != CALL && valueAt(call, part, 0) != 0;
        }

        /**
         * The value of a part of a call, or of a test, that has been evaluated, from what is seen; 0 if it was not kept and
         * is not found without calls and settings. The level is the number of tests around.
         */
        int valueAt(int startNode, int startIndex, int level) {
            int node = startNode;
            int index = startIndex;
            for (int i = 0; i < MAX_CELLS; i++) {
                int kept = code.kindOf(node) == CALL ? savedValue(node, index) : 0;
                if (kept != 0) {
                    return kept;
                }
                int slot = leafSlot(node, index, level);
                int content = slot >>> 3;
                switch (slot & 7) {
                    case LOCAL:
                        break;
                    case GLOBAL:
                        return heap.leaf(seenGlobals, content);
                    case CLOSED:
                        return heap.make(CLOSURE, 0, content, seenEnvironment, seenTime);
                    default:
                        return content;
                }
                boolean isOwn = Code.depthOf(slot) == 0;
                int around = isOwn ? seenEnvironment : outer(seenEnvironment, Code.depthOf(slot));
                int set = isOwn ? heap.leaf(seenSettings, Code.placeOf(slot)) : 0;
                int found = set != 0 ? set : argumentOf(around, slot);
                if (found != 0) {
                    return found;
                }
                seeFrame(spotFrame);
                node = heap.at(spotFrame, ITEM);
                index = spotIndex;
            }
            return 0;
        }

        // A branch or sequence whose value is found again comes to one of the slots in it. To see which one, its tests are
        // looked for again, too; a test that would need too many tests in others is not, so that all of it stays short.
        private int leafSlot(int startNode, int startIndex, int level) {
            int node = startNode;
            int index = startIndex;
            for (int i = 0; i < MAX_LEVEL; i++) {
                int slot = code.slotOf(node, index);
                int inner = Code.contentOf(slot);
                if (Code.tagOf(slot) != NODE) {
                    int depth = Code.tagOf(slot) == LOCAL && code.kindOf(node) != CALL ? Code.depthOf(slot) : 0;
                    // A variable further out that is set somewhere may be another one when it is looked for again.
                    return depth > 0 && code.isSet(code.binderOf(node, depth), slot) ? 0 : slot;
                }
                switch (code.kindOf(inner)) {
                    case BRANCH:
                        int test = level < MAX_TESTS ? testOf(inner, level + 1) : 0;
                        index = test == FALSE_CELL ? 2 : 1;
                        if (test == 0 || index >= code.countOf(inner)) {
                            return test == 0 ? 0 : CONSTANT | NOTHING_CELL << 3;
                        }
                        break;
                    case SEQUENCE:
                        index = code.countOf(inner) - 1;
                        for (int j = 0; j < index; j++) {
                            if (Code.tagOf(code.slotOf(inner, j)) == NODE) {
                                return 0;
                            }
                        }
                        break;
                    case SET_LOCAL:
                    case SET_GLOBAL:
                        // It was done ahead of any branch, and so comes to nothing in particular whatever it sets.
                        return node == startNode ? CONSTANT | NOTHING_CELL << 3 : 0;
                    default:
                        return 0;
                }
                node = inner;
            }
            return 0;
        }

        /** The value of the test of a branch; what is seen stays as it was. */
        private int testOf(int branch, int level) {
            int environment = seenEnvironment;
            int globals = seenGlobals;
            int settings = seenSettings;
            int seen = seenTime;
            int test = valueAt(branch, 0, level);
            seenEnvironment = environment;
            seenGlobals = globals;
            seenSettings = settings;
            seenTime = seen;
            return test;
        }

        /** The value of a variable now. */
        int valueOf(int slot, int environment) {
            int around = outer(environment, Code.depthOf(slot));
            int set = heap.leaf(heap.at(around, EXTRA), Code.placeOf(slot));
            int found = set != 0 ? set : argumentOf(around, slot);
            if (found != 0) {
                return found;
            }
            seeFrame(spotFrame);
            return valueAt(heap.at(spotFrame, ITEM), spotIndex, 0);
        }

        int outer(int environment, int depth) {
            int around = environment;
            for (int i = 0; i < depth; i++) {
                around = heap.at(around, NEXT);
            }
            return around;
        }

        /**
         * The value of a part of a call, if it was kept. If not, it is 0, and what is seen goes back to what was around
         * when the part was evaluated: ahead of the calls and settings in parts behind it.
         */
        private int savedValue(int call, int index) {
            int event = seenEvents;
            for (int i = 0; i < MAX_CELLS && event != 0; i++) {
                int eventKind = heap.kindOf(event);
                int before = heap.at(event, NEXT);
                int node = eventKind == SAVED ? heap.at(event, EXTRA)
                        : eventKind == RESUMED ? heap.at(before, ITEM) : heap.noteOf(event);
                // How many nodes out the call is: a value is one of its parts if it is 0 or, for the value of a call, 1.
                int steps = 0;
                int part = eventKind == SAVED && node == call ? heap.noteOf(event) : -1;
                for (; steps < MAX_LEVEL && node != 0 && node != call && part < 0; steps++) {
                    int parent = heap.word(node + Code.PARENT);
                    part = parent == call ? heap.word(node) >> Code.INDEX_SHIFT & Code.PARTS_MASK : -1;
                    node = parent;
                }
                if (index == part && steps == (eventKind == SAVED ? 0 : 1) && eventKind != CHANGED) {
                    return heap.at(event, ITEM);
                }
                if (part < 0 || eventKind != SAVED && index >= part) {
                    return 0;
                }
                if (eventKind == RESUMED) {
                    seeFrame(before);
                } else if (eventKind == CHANGED) {
                    seenGlobals = heap.at(event, ITEM);
                    seenSettings = heap.at(event, EXTRA);
                }
                event = eventKind == RESUMED ? seenEvents : before;
            }
            return 0;
        }

        /** An argument in an environment; 0 if it is found as the part spotIndex of the call of spotFrame. */
        private int argumentOf(int environment, int slot) {
            int from = heap.at(environment, ITEM);
            int place = Code.placeOf(slot);
            boolean isRest = Code.isRest(slot);
            switch (heap.kindOf(environment)) {
                case CALL_ENVIRONMENT:
                    spotFrame = from;
                    spotIndex = place + 1;
                    if (!isRest) {
                        return 0;
                    }
                    boolean hasExtra = countOf(from) > spotIndex;
                    return hasExtra ? heap.make(VIEW, 0, from, 0, spotIndex) : EMPTY_CELL;
                case LIST_ENVIRONMENT:
                    int behind = behind(from, place);
                    if (!isRest) {
                        return behind == 0 ? 0 : heap.at(behind, FIRST);
                    }
                    boolean isEnd = behind == EMPTY_CELL;
                    int base = behind == 0 ? spotFrame : behind;
                    return isEnd ? EMPTY_CELL : heap.make(VIEW, 0, base, environment, behind == 0 ? spotIndex : 0);
                case ONE_ENVIRONMENT:
                    return from;
                default:
                    int items = from;
                    for (int i = 0; i < place / 2; i++) {
                        items = heap.at(items, NEXT);
                    }
                    return heap.at(items, place % 2 == 0 ? ITEM : EXTRA);
            }
        }

        /**
         * What is left of a list behind this many parts, if it is a pair or the empty list; 0 if it is what is left of
         * the parts of the call of spotFrame, from spotIndex on.
         */
        private int behind(int list, int count) {
            int cell = list;
            int left = count;
            for (int i = 0; i < MAX_CELLS; i++) {
                int base = heap.kindOf(cell) == VIEW ? heap.at(cell, ITEM) : cell;
                if (heap.kindOf(base) == CALL_FRAME) {
                    spotFrame = base;
                    spotIndex = heap.at(cell, EXTRA) + left;
                    int parts = heap.word(heap.at(base, ITEM)) >> Code.COUNT_SHIFT & Code.PARTS_MASK;
                    return spotIndex < parts ? 0 : EMPTY_CELL;
                }
                if (left == 0 || heap.kindOf(base) != PAIR) {
                    return base;
                }
                cell = heap.at(base, REST);
                left--;
            }
            return EMPTY_CELL;
        }

        /** How many parts the call of a frame has. */
        private int countOf(int frame) {
            return heap.word(heap.at(frame, ITEM)) >> Code.COUNT_SHIFT & Code.PARTS_MASK;
        }

        /** The number of parts of a list; -1 if it does not end with the empty list. */
        int lengthOf(int list) {
            int length = 0;
            int cell = list;
            for (int i = 0; i < MAX_CELLS; i++) {
                int base = heap.kindOf(cell) == VIEW ? heap.at(cell, ITEM) : cell;
                if (heap.kindOf(base) == CALL_FRAME) {
                    return length + countOf(base) - heap.at(cell, EXTRA);
                }
                if (heap.kindOf(base) != PAIR) {
                    return base == EMPTY_CELL ? length : -1;
                }
                cell = heap.at(base, REST);
                length++;
            }
            return -1;
        }

        /** A part of a list; 0 if it is found as the part spotIndex of the call of spotFrame, which is seen now. */
        int partOf(int list, int index) {
            int behind = behind(list, index);
            if (behind == 0) {
                seeFrame(spotFrame);
            }
            return heap.at(behind, FIRST);
        }

        /** A new list like what is left of a list behind this many parts. */
        int copyFrom(int list, int count) {
            int behind = behind(list, count);
            int whose = heap.make(LINK, 0, 0, 0, 0);
            boolean isOfCall = behind == 0;
            int base = isOfCall ? spotFrame : behind;
            return behind == EMPTY_CELL ? behind : heap.make(VIEW, 0, base, whose, isOfCall ? spotIndex : 0);
        }

        /** Through how many calls a part of a list may have to be looked for. */
        int distanceOfList(int list) {
            int cell = list;
            for (int i = 0; i < MAX_CELLS; i++) {
                int base = heap.kindOf(cell) == VIEW ? heap.at(cell, ITEM) : cell;
                if (heap.kindOf(base) == CALL_FRAME) {
                    return heap.noteOf(heap.at(heap.at(base, EXTRA), ITEM)) + 1;
                }
                if (heap.kindOf(base) != PAIR) {
                    return 0;
                }
                cell = heap.at(base, REST);
            }
            return 0;
        }

        boolean isPair(int cell) {
            int cellKind = heap.kindOf(cell);
            return cellKind == PAIR || cellKind == VIEW;
        }

        int firstOf(int pair) {
            int base = heap.kindOf(pair) == VIEW ? heap.at(pair, ITEM) : pair;
            if (heap.kindOf(base) == PAIR) {
                return heap.at(base, FIRST);
            }
            seeFrame(base);
            return valueAt(heap.at(base, ITEM), heap.at(pair, EXTRA), 0);
        }

        int restOf(int pair) {
            if (heap.kindOf(pair) != VIEW) {
                return heap.at(pair, REST);
            }
            int base = heap.at(pair, ITEM);
            int whose = heap.at(pair, NEXT);
            if (heap.kindOf(base) == CALL_FRAME) {
                int index = heap.at(pair, EXTRA) + 1;
                return index < countOf(base) ? heap.make(VIEW, 0, base, whose, index) : EMPTY_CELL;
            }
            int rest = heap.at(base, REST);
            if (heap.kindOf(rest) == VIEW) {
                return heap.make(VIEW, 0, heap.at(rest, ITEM), whose, heap.at(rest, EXTRA));
            }
            return heap.kindOf(rest) == PAIR ? heap.make(VIEW, 0, rest, whose, 0) : rest;
        }

        /** Whether the primitive 21 holds. Closures and views may be made again whenever they are looked for. */
        private boolean areSame(int one, int other) {
            int cellKind = heap.kindOf(one);
            if ((cellKind == CLOSURE || cellKind == VIEW) && heap.kindOf(other) == cellKind) {
                return heap.at(one, 1) == heap.at(other, 1)
                        && heap.at(one, 2) == heap.at(other, 2)
                        && heap.at(one, 3) == heap.at(other, 3);
            }
            return store.areSame(one, other);
        }

        /** What a primitive but first comes to; below 0 is an error: minus its letter. */
        int answer(int symbol, int one, int other) {
            switch (symbol) {
                case 16:
                    return heap.make(PAIR, 0, one, other, 0);
                case 18:
                    return isPair(one) ? restOf(one) : -'t';
                case 19:
                    return truthCell(isPair(one));
                case 20:
                    return truthCell(one == EMPTY_CELL);
                case 21:
                    return truthCell(areSame(one, other));
                case 25:
                    return truthCell(one == FALSE_CELL);
                default:
                    return reckon(symbol, one, other);
            }
        }

        private static int truthCell(boolean isTrue) {
            return isTrue ? TRUE_CELL : FALSE_CELL;
        }

        /** The primitives of numbers. No product of two parts in range is over 10 to the 18th: nothing wraps around. */
        private int reckon(int symbol, int one, int other) {
            if (heap.kindOf(one) != NUMBER || heap.kindOf(other) != NUMBER) {
                return -'t';
            }
            long a = heap.at(one, AMOUNT);
            long b = heap.at(one, DENOMINATOR);
            long c = heap.at(other, AMOUNT);
            long d = heap.at(other, DENOMINATOR);
            int number;
            switch (symbol) {
                case 10:
                    number = store.fraction(a * d + c * b, b * d);
                    break;
                case 11:
                    number = store.fraction(a * d - c * b, b * d);
                    break;
                case 12:
                    number = store.fraction(a * c, b * d);
                    break;
                case 13:
                    if (c == 0) {
                        return -'z';
                    }
                    number = store.fraction(a * d, b * c);
                    break;
                case 14:
                    return truthCell(a * d < c * b);
                default:
                    return truthCell(a == c && b == d);
            }
            return number == 0 ? -'o' : number;
        }
    }

    /**
     * The run at hand. A body is evaluated slot by slot; a value goes to the slot for which it is, and at the end of a
     * body to the frame that waits for it; when the parts of a call have been evaluated, it is applied.
     */
    private static final class Machine {
        private static final byte[] ARGUMENTS = {2, 2, 2, 2, 2, 2, 2, 1, 1, 1, 1, 2, 1, 3, 2, 1, 2, 1, 2, 1};
        // What is next: to evaluate a slot, to take its value, to give a value to a frame, to apply a procedure.
        private static final int EVALUATE = 0;
        private static final int TAKE = 1;
        private static final int RETURN = 2;
        private static final int APPLY = 3;
        // What the arguments are: the parts of the call at hand, the parts of the value, which is a list, the value, none.
        private static final int OF_CALL = 0;
        private static final int OF_LIST = 1;
        private static final int OF_ONE = 2;
        private static final int OF_NONE = 3;
        private static final int REGISTERS = 7;
        private static final int MIN_DISTANCE = 12;

        private final Heap heap;
        private final Store store;
        private final Code code;
        private final Values values;
        private final Counts counts;
        private final Row saved;
        char status; // 0 ahead of the first program, 'r', 'v', or the letter of an error
        private int mode;
        private int node;
        private int index;
        private int environment;
        private int events; // what has been kept, and what calls and settings there were, in the calls around
        private int time; // differs for all stretches of a body between two calls
        private boolean isFoundLater; // whether a part may have been evaluated, since then or a setting, that is not kept
        int value;
        private int frames;
        private int procedure;
        private int source;
        private int topWind;
        private int topHandler;

        Machine(Heap heap, Store store, Code code, Values values, Counts counts) {
            this.heap = heap;
            this.store = store;
            this.code = code;
            this.values = values;
            this.counts = counts;
            saved = heap.newRoots(REGISTERS);
        }

        boolean isBegun() {
            return status != 0;
        }

        char stateNow() {
            return status == 0 || status == 'r' || status == 'v' ? status : 'e';
        }

        int countOfWinds() {
            return heap.at(heap.at(topWind, ITEM), EXTRA);
        }

        int countOfHandlers() {
            return heap.at(topHandler, EXTRA);
        }

        private int depthOf(int wind) {
            return heap.at(heap.at(wind, ITEM), EXTRA);
        }

        /** Gives up what there was of an earlier run. */
        void stop() {
            counts.abandoned += countOfWinds();
            clearRegisters();
            saveRegisters();
        }

        /** Begins with this code; with 0, which is a wrong program, it ends at once. */
        char start(int program, char wrong) {
            clearRegisters();
            counts.applicationsOfRun = 0;
            status = 'r';
            mode = EVALUATE;
            node = program;
            index = 0;
            nextTime();
            if (program == 0) {
                fail(wrong);
            }
            saveRegisters();
            return stateNow();
        }

        char goOn(int units) {
            int fuel = units;
            for (int i = 0; i < MAX_STEPS && status == 'r' && (mode != APPLY || fuel > 0); i++) {
                if (heap.isDue()) {
                    saveRegisters();
                    heap.collect();
                }
                if (mode == EVALUATE) {
                    if (code.kindOf(node) == CALL) {
                        evaluateParts();
                    } else {
                        evaluateForm();
                    }
                } else if (mode == TAKE && code.kindOf(node) >= SET_LOCAL) {
                    assign();
                } else if (mode == TAKE) {
                    takeValue();
                } else if (mode == RETURN) {
                    giveToFrame();
                } else {
                    fuel--;
                    counts.applications++;
                    counts.applicationsOfRun++;
                    switch (heap.kindOf(procedure)) {
                        case CLOSURE:
                            applyClosure();
                            break;
                        case PRIMITIVE:
                            applyPrimitive();
                            break;
                        case CONTINUATION:
                            applyContinuation();
                            break;
                        default:
                            fail('n');
                    }
                }
                if (heap.isFull() && status == 'r') {
                    fail('o');
                    saveRegisters();
                    heap.collect();
                }
            }
            saveRegisters();
            return stateNow();
        }

        /** Lets the heap see what the registers hold. */
        private void saveRegisters() {
            heap.codeAtHand = node;
            saved.put(0, environment);
            saved.put(1, events);
            saved.put(2, value);
            saved.put(3, frames);
            saved.put(4, procedure);
            saved.put(5, topWind);
            saved.put(6, topHandler);
        }

        private void clearRegisters() {
            node = 0;
            environment = 0;
            events = 0;
            value = 0;
            frames = 0;
            procedure = 0;
            topWind = 0;
            topHandler = 0;
        }

        private void nextTime() {
            time = time + 1 & MAX_NOTE;
            isFoundLater = false;
        }

        private void fail(char errorLetter) {
            counts.abandoned += countOfWinds();
            clearRegisters();
            end(errorLetter);
        }

        private void finish() {
            int last = value;
            clearRegisters();
            end('v');
            value = last;
            counts.endedWithValue++;
        }

        private void end(char how) {
            status = how;
            counts.ended++;
            counts.applicationsOfEnded += counts.applicationsOfRun;
        }

        private void give(int answer) {
            value = answer;
            mode = RETURN;
        }

        private void push(int frameKind, int subject, int extra) {
            frames = heap.make(frameKind, 0, subject, frames, extra);
        }

        /** Evaluates the parts of a call, as far as they need no frame. */
        private void evaluateParts() {
            int count = code.countOf(node);
            for (int i = 0; i < MAX_SIZE && index < count; i++) {
                int slot = code.slotOf(node, index);
                int content = Code.contentOf(slot);
                if (Code.tagOf(slot) == NODE) {
                    enterNode(content);
                    return;
                }
                if (Code.tagOf(slot) == GLOBAL && store.globalValue(content) == 0) {
                    fail('u');
                    return;
                }
                // All others are found again as they are now; but a variable further out may be set by other bodies.
                isFoundLater = isFoundLater || Code.tagOf(slot) == LOCAL || Code.tagOf(slot) == GLOBAL;
                int depth = Code.tagOf(slot) == LOCAL ? Code.depthOf(slot) : 0;
                if (depth > 0 && code.isSet(code.binderOf(node, depth), slot)) {
                    keepPart(values.valueOf(slot, environment));
                }
                index++;
            }
            values.see(environment, events, time);
            procedure = values.valueAt(node, 0, 0);
            source = OF_CALL;
            mode = APPLY;
        }

        private void keepPart(int part) {
            events = heap.makeShared(SAVED, index, part, events, node);
        }

        private void enterNode(int inner) {
            node = inner;
            index = 0;
            mode = EVALUATE;
        }

        /** Lets the value be that of the node at hand. */
        private void goUp() {
            index = code.indexOf(node);
            node = code.parentOf(node);
            mode = TAKE;
        }

        private void evaluateForm() {
            int slot = code.slotOf(node, index);
            int content = Code.contentOf(slot);
            mode = TAKE;
            switch (Code.tagOf(slot)) {
                case NODE:
                    if (code.kindOf(content) == SYNTAX) {
                        store.define(code.infoOf(content), MACRO, code.moreOf(content));
                        value = NOTHING_CELL;
                    } else {
                        enterNode(content);
                    }
                    break;
                case LOCAL:
                    value = values.valueOf(slot, environment);
                    break;
                case GLOBAL:
                    value = store.globalValue(content);
                    break;
                case CLOSED:
                    value = heap.make(CLOSURE, 0, content, environment, time);
                    break;
                default:
                    value = content;
            }
            if (mode == TAKE && value == 0) {
                fail('u');
            }
        }

        /** Takes the value of the slot at hand. */
        private void takeValue() {
            boolean isEnd = index == code.countOf(node) - 1;
            boolean goesOn = !isEnd;
            switch (code.kindOf(node)) {
                case CALL:
                    values.see(environment, events, time);
                    if (!values.isFoundAgain(node, index)) {
                        keepPart(value);
                    } else if (!code.isSetting(Code.contentOf(code.slotOf(node, index)))) {
                        isFoundLater = true;
                    }
                    goesOn = true;
                    break;
                case BRANCH:
                    boolean isTest = index == 0;
                    int chosen = value == FALSE_CELL ? 2 : 1;
                    goesOn = isTest && chosen < code.countOf(node);
                    value = isTest && !goesOn ? NOTHING_CELL : value;
                    index = chosen - 1;
                    break;
                default:
                    break;
            }
            int nodeKind = code.kindOf(node);
            if (goesOn) {
                index++;
                mode = EVALUATE;
            } else if (nodeKind == LAMBDA || nodeKind == PROGRAM) {
                mode = RETURN;
            } else {
                goUp();
            }
        }

        /** Lets a variable have the value; what has been evaluated in the calls around is still to be found as it was. */
        private void assign() {
            int info = code.infoOf(node);
            boolean isLocal = code.kindOf(node) == SET_LOCAL;
            int settings = heap.at(environment, EXTRA);
            int depth = isLocal ? Code.depthOf(info) : 0;
            if (depth == 0 && isFoundLater && code.isInCall(node)) {
                events = heap.make(CHANGED, node, store.globals(), events, settings);
                isFoundLater = false;
            }
            if (isLocal) {
                int around = values.outer(environment, depth);
                heap.put(around, EXTRA, heap.withLeaf(heap.at(around, EXTRA), Code.placeOf(info), value));
            } else if (code.kindOf(node) == SET_GLOBAL && store.globalValue(info) == 0) {
                fail('u');
            } else {
                store.define(info, VARIABLE, value);
            }
            if (status == 'r') {
                value = NOTHING_CELL;
                goUp();
            }
        }

        /** The frame of the call at hand, with what has been kept for it. */
        private int frameHere(int kept, int next) {
            int state = heap.make(STATE, heap.at(environment, EXTRA), environment, kept, store.globals());
            return heap.make(CALL_FRAME, time, node, next, state);
        }

        /** The events without what was kept for the call at hand since the last call or setting in its parts. */
        private int eventsAround() {
            int event = events;
            for (int i = 0; i < MAX_SIZE && heap.kindOf(event) == SAVED && heap.at(event, EXTRA) == node; i++) {
                event = heap.at(event, NEXT);
            }
            return event;
        }

        /** Lets what is still to be done behind the call at hand wait for its value. */
        private void leaveCall() {
            if (source == OF_CALL && !code.isLast(node)) {
                frames = frameHere(eventsAround(), frames);
            }
        }

        /** Goes on behind the call of a frame. */
        private void resume(int frame) {
            int state = heap.at(frame, EXTRA);
            node = heap.at(frame, ITEM);
            frames = heap.at(frame, NEXT);
            environment = heap.at(state, ITEM);
            events = code.isInCall(node) ? heap.make(RESUMED, 0, value, frame, 0) : 0;
            nextTime();
            goUp();
            if (code.kindOf(node) == CALL) {
                index++;
                mode = EVALUATE;
            }
        }

        private void applyLater(int applied, int whatIsGiven, int given) {
            procedure = applied;
            source = whatIsGiven;
            value = given;
            mode = APPLY;
        }

        private void giveToFrame() {
            int frame = frames;
            if (frame == 0) {
                finish();
                return;
            }
            int frameKind = heap.kindOf(frame);
            if (frameKind == CALL_FRAME) {
                resume(frame);
                return;
            }
            frames = heap.at(frame, NEXT);
            int subject = heap.at(frame, ITEM);
            int extra = heap.at(frame, EXTRA);
            switch (frameKind) {
                case HANDLER_FRAME:
                    topHandler = subject;
                    break;
                case BEFORE_FRAME:
                    enter(subject);
                    push(DURING_FRAME, subject, 0);
                    applyLater(extra, OF_NONE, 0);
                    break;
                case DURING_FRAME:
                    push(AFTER_FRAME, value, 0);
                    leaveWind(subject);
                    break;
                case AFTER_FRAME:
                    value = subject;
                    break;
                case JUMP_FRAME:
                    goOnWithJump(subject, extra);
                    break;
                case ENTER_FRAME:
                    enter(extra);
                    goOnWithJump(subject, extra);
                    break;
                default:
                    // A prompt that is come back to lets the value through.
                    break;
            }
        }

        private void enter(int wind) {
            topWind = wind;
            counts.entered++;
        }

        /** Leaves the innermost wind, and applies its after. */
        private void leaveWind(int wind) {
            topWind = heap.at(wind, NEXT);
            counts.left++;
            topHandler = heap.at(wind, EXTRA);
            applyLater(heap.at(heap.at(wind, ITEM), NEXT), OF_NONE, 0);
        }

        private int argumentCount() {
            switch (source) {
                case OF_CALL:
                    return code.countOf(node) - 1;
                case OF_LIST:
                    return values.lengthOf(value);
                default:
                    return source == OF_ONE ? 1 : 0;
            }
        }

        private int argument(int place) {
            int part = source == OF_ONE ? value : source == OF_LIST ? values.partOf(value, place) : 0;
            if (part != 0) {
                return part;
            }
            if (source == OF_LIST) {
                return values.valueAt(heap.at(values.spotFrame, ITEM), values.spotIndex, 0);
            }
            values.see(environment, events, time);
            return values.valueAt(node, place + 1, 0);
        }

        // An environment notes through how many calls a variable in it may have to be looked for. Where they would be too
        // many, the arguments are looked for at once; so seldom that it takes less than a cell for each application.
        private void applyClosure() {
            int lambda = heap.at(procedure, CODE);
            int around = heap.at(procedure, ENVIRONMENT);
            int info = code.infoOf(lambda);
            int parameters = Code.parametersOf(info);
            int bound = parameters + (Code.hasRest(info) ? 1 : 0);
            int count = argumentCount();
            boolean hasExtra = count > parameters;
            if (count < parameters || hasExtra && bound == parameters) {
                fail('a');
                return;
            }
            int distance = Math.max(heap.noteOf(around), distanceOfArguments());
            boolean isNear = distance <= Math.max(MIN_DISTANCE, 4 * count);
            int inner = around;
            if (isNear && source != OF_ONE && (bound > 2 || hasExtra || bound == 2 && source == OF_CALL && hasLambda())) {
                int from = source == OF_LIST ? value : frameForParts();
                inner = heap.make(source == OF_LIST ? LIST_ENVIRONMENT : CALL_ENVIRONMENT, distance, from, around, 0);
            } else if (bound > 0) {
                int rest = hasExtra && source == OF_LIST ? values.copyFrom(value, parameters) : EMPTY_CELL;
                for (int i = count - 1; i >= parameters && source != OF_LIST; i--) {
                    rest = heap.make(PAIR, 0, argument(i), rest, 0);
                }
                int items = 0;
                for (int i = (bound - 1) / 2 * 2; i >= 0; i -= 2) {
                    int one = i < parameters ? argument(i) : rest;
                    int other = i + 1 < parameters ? argument(i + 1) : rest;
                    items = bound == 1 ? one : heap.make(ITEMS, 0, one, items, other);
                }
                leaveCall();
                int environmentKind = bound == 1 ? ONE_ENVIRONMENT : ITEMS_ENVIRONMENT;
                inner = heap.make(environmentKind, heap.noteOf(around), items, around, 0);
            } else {
                leaveCall();
            }
            node = lambda;
            index = 0;
            environment = inner;
            events = 0;
            mode = EVALUATE;
            nextTime();
        }

        /** Whether a part of the call at hand is a lambda, which takes a cell when it is looked for. */
        private boolean hasLambda() {
            boolean isSo = false;
            int count = code.countOf(node);
            for (int i = 1; i < count && !isSo; i++) {
                isSo = Code.tagOf(code.slotOf(node, i)) == CLOSED;
            }
            return isSo;
        }

        private int distanceOfArguments() {
            if (source == OF_LIST) {
                return values.distanceOfList(value);
            }
            return source == OF_CALL ? heap.noteOf(environment) + 1 : 0;
        }

        /** The frame of the call at hand, in which its parts are found; and what is still to be done behind it waits. */
        private int frameForParts() {
            boolean isLast = code.isLast(node);
            int frame = frameHere(events, isLast ? 0 : frames);
            frames = isLast ? frames : frame;
            return frame;
        }

        private void applyContinuation() {
            if (argumentCount() == 1) {
                jump(procedure, argument(0), 0);
            } else {
                fail('a');
            }
        }

        private void applyPrimitive() {
            int symbol = heap.at(procedure, AMOUNT);
            int due = symbol - FIRST_PRIMITIVE;
            due = due >= 0 && due < ARGUMENTS.length ? ARGUMENTS[due] : 0;
            if (argumentCount() != due) {
                fail('a');
                return;
            }
            int one = argument(0);
            int other = due > 1 ? argument(1) : 0;
            int third = due > 2 ? argument(2) : 0;
            if (symbol >= 22 && symbol != 25) {
                leaveCall();
                control(symbol, one, other, third);
                return;
            }
            int answer = symbol != 17 ? values.answer(symbol, one, other) : values.isPair(one) ? values.firstOf(one) : -'t';
            if (answer < 0) {
                fail((char) -answer);
            } else if (source == OF_CALL) {
                events = code.isInCall(node) ? eventsAround() : 0;
                value = answer;
                goUp();
            } else {
                give(answer);
            }
        }

        /** Applies a primitive that changes what is still to be done. */
        private void control(int symbol, int one, int other, int third) {
            switch (symbol) {
                case 22:
                    applyLater(one, OF_ONE, heap.make(CONTINUATION, 0, frames, topWind, topHandler));
                    break;
                case 23:
                    wind(one, other, third);
                    break;
                case 24:
                    applyLater(one, OF_LIST, other);
                    if (values.lengthOf(other) < 0) {
                        fail('t');
                    }
                    break;
                case 26:
                    push(PROMPT_FRAME, other, heap.make(CONTINUATION, 0, frames, topWind, topHandler));
                    applyLater(one, OF_NONE, 0);
                    break;
                case 27:
                    int prompt = innermostPrompt();
                    if (prompt == 0) {
                        fail('w');
                    } else {
                        jump(heap.at(prompt, EXTRA), one, heap.at(prompt, ITEM));
                    }
                    break;
                case 28:
                    push(HANDLER_FRAME, topHandler, 0);
                    topHandler = heap.make(HANDLER, 0, one, topHandler, countOfHandlers() + 1);
                    applyLater(other, OF_NONE, 0);
                    break;
                default:
                    raise(one);
            }
        }

        // A wind knows its parent and one further out, so that any that is around it is found in a few steps.
        private void wind(int before, int during, int after) {
            int thunks = heap.make(THUNKS, 0, before, after, depthOf(topWind) + 1);
            int out = heap.noteOf(topWind);
            int further = heap.noteOf(out);
            boolean isEven = depthOf(topWind) - depthOf(out) == depthOf(out) - depthOf(further);
            int wind = heap.make(WIND, topWind != 0 && isEven ? further : topWind, thunks, topWind, topHandler);
            push(BEFORE_FRAME, wind, during);
            applyLater(before, OF_NONE, 0);
        }

        private void raise(int raised) {
            if (topHandler == 0) {
                fail('h');
                return;
            }
            int handler = topHandler;
            push(HANDLER_FRAME, handler, 0);
            topHandler = heap.at(handler, NEXT);
            applyLater(heap.at(handler, ITEM), OF_ONE, raised);
        }

        /** The frame of the innermost prompt; 0 if there is none. */
        private int innermostPrompt() {
            int frame = frames;
            for (int i = 0; i < MAX_CELLS && frame != 0 && heap.kindOf(frame) != PROMPT_FRAME; i++) {
                frame = heap.at(frame, NEXT);
            }
            return frame;
        }

        /** Jumps to a continuation, where the value goes on, or is taken by a procedure. */
        private void jump(int target, int carried, int taker) {
            counts.jumps++;
            int goal = heap.make(GOAL, 0, target, carried, taker);
            frames = 0;
            push(JUMP_FRAME, goal, innermostOfBoth(topWind, heap.at(target, WINDS)));
            give(NOTHING_CELL);
        }

        /** The wind at this depth that is around a wind, or is that one. */
        private int windAround(int wind, int depth) {
            int around = wind;
            for (int i = 0; i < MAX_CELLS && heap.at(heap.at(around, ITEM), EXTRA) > depth; i++) {
                int further = heap.noteOf(around);
                boolean isWithin = heap.at(heap.at(further, ITEM), EXTRA) >= depth;
                around = isWithin ? further : heap.at(around, NEXT);
            }
            return around;
        }

        private int innermostOfBoth(int one, int other) {
            int a = windAround(one, depthOf(other));
            int b = windAround(other, depthOf(one));
            for (int i = 0; i < MAX_CELLS && a != b; i++) {
                boolean isFar = heap.noteOf(a) != heap.noteOf(b);
                a = isFar ? heap.noteOf(a) : heap.at(a, NEXT);
                b = isFar ? heap.noteOf(b) : heap.at(b, NEXT);
            }
            return a;
        }

        /** Leaves the next wind that the goal is not in, or enters the next one that it is in, or arrives. */
        private void goOnWithJump(int goal, int staying) {
            int target = heap.at(goal, ITEM);
            int innermost = heap.at(target, WINDS);
            frames = heap.at(target, FRAMES);
            if (topWind != staying && topWind != 0) {
                push(JUMP_FRAME, goal, staying);
                leaveWind(topWind);
            } else if (staying != innermost) {
                int next = windAround(innermost, depthOf(staying) + 1);
                push(ENTER_FRAME, goal, next);
                topHandler = heap.at(next, EXTRA);
                applyLater(heap.at(heap.at(next, ITEM), ITEM), OF_NONE, 0);
            } else {
                topHandler = heap.at(target, HANDLERS);
                arrive(heap.at(goal, NEXT), heap.at(goal, EXTRA));
            }
        }

        private void arrive(int carried, int taker) {
            if (taker == 0) {
                give(carried);
            } else {
                applyLater(taker, OF_ONE, carried);
            }
        }
    }
}
