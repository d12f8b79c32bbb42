import java.util.NoSuchElementException;

/**
 * A small Scheme whose programs are data, laid by calls or read from text, and run by units of fuel.
 *
 * <p>All that programs make lives in one heap of equal cells that are used again when nothing reaches them, so that a
 * long row of calls needs no more room than what is still in use. A cell is named by a number; 0 is no cell.
 */
public final class WindwardScheme {
    // The limits of the document.
    private static final int MAX_DATA = 3000;
    private static final int MAX_LAID_DEPTH = 60;
    private static final int MAX_MADE_DEPTH = 100;
    private static final int MAX_SIZE = 3000;
    private static final int MAX_AMOUNT = 1000000000;
    private static final int MAX_TEXT = 500;
    private static final int MAX_FUEL = 500;
    private static final int MAX_FORMS_AROUND = 100;
    private static final int MAX_EXPANSIONS = 200;
    private static final int SYMBOLS = 60;

    // The symbols that mean something from the first.
    private static final int QUOTE_SYMBOL = 0;
    private static final int IF_SYMBOL = 1;
    private static final int LAMBDA_SYMBOL = 2;
    private static final int DEFINE_SYMBOL = 3;
    private static final int SET_SYMBOL = 4;
    private static final int BEGIN_SYMBOL = 5;
    private static final int SYNTAX_SYMBOL = 6;
    private static final int ELLIPSIS_SYMBOL = 7;
    private static final int BLANK_SYMBOL = 8;
    private static final int FIRST_PRIMITIVE = 10;
    private static final int LAST_PRIMITIVE = 29;

    // What a symbol can be.
    private static final int UNKNOWN = 0;
    private static final int KEYWORD = 1;
    private static final int MACRO = 2;
    private static final int VARIABLE = 3;

    // Kinds of cells: data and other values.
    private static final int FREE = 0;
    private static final int NUMBER = 1; // numerator, denominator
    private static final int SYMBOL = 2; // its number
    private static final int RENAMED = 3; // the name under it, its mark
    private static final int TRUTH = 4; // 1 or 0
    private static final int EMPTY = 5;
    private static final int PAIR = 6; // first part, other part, measure or, if a program made it, length; note: see Expander
    private static final int NOTHING = 7;
    private static final int CLOSURE = 8; // lambda, environment, stamp
    private static final int PRIMITIVE = 9; // its symbol
    private static final int CONTINUATION = 10; // frames, winds, handlers
    private static final int VIEW = 11; // what it is a list of, place in it, stamp: see Values
    private static final int COPIED = 12; // first part, other part; note: which pair of its datum it is
    // Kinds of cells: what macros and lambdas are seen by.
    private static final int LINK = 13; // item, next
    private static final int SCOPE = 14; // name, next; note: see Expander
    private static final int BINDING = 15; // name or pattern, next, what it matches; note: pattern of a row: see Macros
    // Kinds of cells: rows of values: see Values.
    private static final int ITEMS = 16; // three values; note: next
    private static final int PACKED = 17; // base, runs, literal values; note: how many values
    private static final int RUN = 18; // offset, next; note: length and mode
    // Kinds of cells: what variables are bound to.
    private static final int ONE_ENVIRONMENT = 19; // value, the environment around
    private static final int ENVIRONMENT = 20; // row of values, the environment around, lambda; note: whether one was set
    // Kinds of cells: code.
    private static final int PARTS = 21; // three slots; note: next
    private static final int LAMBDA = 22; // twice the parameters and 1 for a rest, parts of the body
    private static final int SET_LOCAL = 23; // variable, slot
    private static final int SET_GLOBAL = 24; // symbol, slot
    private static final int DEFINITION = 25; // symbol, slot
    private static final int SYNTAX = 26; // symbol, literals and rules
    // Kinds of cells: what is still to be done.
    private static final int PATH = 27; // slot of the form with its part at hand, path of the form around, place
    private static final int BODY_FRAME = 28; // row of values, next, environment; note: path
    private static final int HANDLER_FRAME = 29; // handlers to come back to, next
    private static final int PROMPT_FRAME = 30; // handler, next, continuation of the prompt
    private static final int BEFORE_FRAME = 31; // wind, next, during
    private static final int DURING_FRAME = 32; // wind, next
    private static final int AFTER_FRAME = 33; // value, next
    private static final int JUMP_FRAME = 34; // goal, next, innermost wind that stays
    private static final int ENTER_FRAME = 35; // goal, next, wind to be entered
    // Kinds of cells: what frames and registers hold.
    private static final int WIND = 36; // thunks, the wind around it, handlers; note: a wind further out
    private static final int THUNKS = 37; // before, after, how many winds there are with it
    private static final int HANDLER = 38; // procedure, the handler around it, how many handlers there are with it
    private static final int GOAL = 39; // continuation, value, procedure that takes it or 0

    // The fields of a cell that name other cells, by kind: 1 the first field, 2 the second, 4 the third, 8 the note;
    // and those that are slots: 16 the first field, 32 the second, 64 the third.
    private static final byte[] REFERENCES = {
        0, 0, 0, 1, 0, 0, 3, 0, 3, 0, 7, 1, 3, 3, 3, 7, 15, 7, 2, 3, 7, 120, 2, 32, 32, 32, 2, 18, 15, 3, 7, 7, 3, 3, 7, 7,
        15, 3, 3, 7
    };

    // The fields of cells, by the names that fit their kinds.
    private static final int HEAD = 0;
    private static final int FIRST = 1;
    private static final int REST = 2;
    private static final int MEASURE = 3;
    private static final int AMOUNT = 1;
    private static final int DENOMINATOR = 2;
    private static final int UNDER = 1;
    private static final int MARK = 2;
    private static final int CODE = 1;
    private static final int AROUND = 2;
    private static final int STAMP = 3;
    private static final int ITEM = 1;
    private static final int NEXT = 2;
    private static final int EXTRA = 3;
    private static final int FRAMES = 1;
    private static final int WINDS = 2;
    private static final int HANDLERS = 3;

    // What a slot of code holds, by its lowest bits. Up to QUOTATION the rest of it is a cell.
    private static final int CALL = 0; // parts
    private static final int BRANCH = 1; // parts
    private static final int SEQUENCE = 2; // parts
    private static final int OTHER = 3; // lambda, setting or definition
    private static final int CONSTANT = 4; // value
    private static final int QUOTATION = 5; // value
    private static final int LOCAL = 6; // place among the variables of its lambda, how many environments out
    private static final int GLOBAL = 7; // symbol
    private static final int TAG_MASK = 7;
    private static final int SLOT_SHIFT = 3;
    private static final int DEPTH_OUT_SHIFT = 14;
    private static final int PLACE_MASK = 2047;

    // The cells that are always there, in the order in which Store makes them.
    private static final int FIRST_SYMBOL_CELL = 1;
    private static final int FALSE_CELL = 61;
    private static final int TRUE_CELL = 62;
    private static final int EMPTY_CELL = 63;
    private static final int NOTHING_CELL = 64;
    private static final int PRIMITIVE_CELLS = 55;

    // The measure of a pair: its size, its depth, and whether a renamed symbol is in it.
    private static final int SIZE_MASK = 4095;
    private static final int DEPTH_SHIFT = 12;
    private static final int DEPTH_MASK = 127;
    private static final int RENAMED_INSIDE = 1 << 19;
    private static final int MEASURE_OF_ONE = 1 << 12 | 1;

    // The heap: a cell is two words of a chunk, each with two of its fields; the head is kind, flags and note.
    private static final int CHUNK_BITS = 10;
    private static final int CHUNK_CELLS = 1024;
    private static final int MAX_CHUNKS = 3150;
    private static final int MAX_CELLS = MAX_CHUNKS * CHUNK_CELLS;
    private static final long LOW_WORD = 0xFFFFFFFFL;
    private static final int KIND_MASK = 63;
    private static final int MARKED = 64;
    private static final int KEPT = 128;
    private static final int GRAY = 256;
    private static final int NOTE_SHIFT = 9;
    // Cells that are free ahead of each step, so that none is looked for within it: of one that is small, and of one in
    // which a datum or list as large as can be is made. And those that stay free for data.
    private static final int STEP = 1024;
    private static final int SLACK = 8192;
    private static final int RESERVE = 65536;

    // Bounds of loops and recursions that no run comes near to.
    private static final int MAX_STEPS = 2000000000;
    private static final int MAX_LEVEL = 104;
    private static final int MAX_ROW = 163840;

    private final Store store;
    private final Writer writer;
    private final Reader reader;
    private final Expander expander;
    private final Machine machine;
    private final Counts counts;

    public WindwardScheme() {
        Heap heap = new Heap();
        Store laid = new Store(heap);
        Values values = new Values(heap);
        Counts counted = new Counts();
        store = laid;
        counts = counted;
        writer = new Writer(heap, values);
        reader = new Reader();
        expander = new Expander(heap, laid, values);
        machine = new Machine(heap, laid, values, counted);
    }

    // ---- data

    public int number(int numerator, int denominator) throws IllegalArgumentException, IllegalStateException {
        if (!Store.fits(numerator, denominator)) {
            throw new IllegalArgumentException("the denominator is 0, or the number is out of range");
        }
        needRoomForOne();
        store.makeRoom();
        return needLaid(store.layNumber(numerator, denominator));
    }

    public int symbol(int symbol) throws IllegalArgumentException, IllegalStateException {
        needSymbol(symbol);
        return needLaid(store.lay(FIRST_SYMBOL_CELL + symbol));
    }

    public int truth(boolean isTrue) throws IllegalStateException {
        return needLaid(store.lay(isTrue ? TRUE_CELL : FALSE_CELL));
    }

    public int empty() throws IllegalStateException {
        return needLaid(store.lay(EMPTY_CELL));
    }

    public int pair(int first, int rest) throws IndexOutOfBoundsException, IllegalStateException {
        needDatum(first);
        needDatum(rest);
        needRoomForOne();
        store.makeRoom();
        return needLaid(store.layPair(first, rest));
    }

    public int data() {
        return store.count;
    }

    public char kind(int datum) throws IndexOutOfBoundsException {
        needDatum(datum);
        return store.letterOf(store.cellOf(datum));
    }

    public int part(int datum, boolean isFirst) throws IndexOutOfBoundsException, UnsupportedOperationException {
        needDatum(datum);
        if (kind(datum) != 'p') {
            throw new UnsupportedOperationException("no pair");
        }
        return store.partOf(datum, isFirst);
    }

    public long amount(int datum) throws IndexOutOfBoundsException, UnsupportedOperationException {
        char letter = kind(datum);
        if (letter != 'n' && letter != 's' && letter != 't') {
            throw new UnsupportedOperationException("neither a number nor a name nor a truth");
        }
        return store.amountOf(datum);
    }

    public double asDouble(int datum) throws IndexOutOfBoundsException, UnsupportedOperationException {
        if (kind(datum) != 'n') {
            throw new UnsupportedOperationException("no number");
        }
        return store.quotientOf(datum);
    }

    public boolean areAlike(int datum, int other) throws IndexOutOfBoundsException {
        needDatum(datum);
        needDatum(other);
        return store.areShapedAlike(store.cellOf(datum), store.cellOf(other));
    }

    // ---- text

    public int write(int datum) throws IndexOutOfBoundsException, UnsupportedOperationException {
        needDatum(datum);
        return needWritten(writer.putAll(false, store.cellOf(datum)));
    }

    public int writeExpanded(int datum)
            throws IndexOutOfBoundsException, IllegalArgumentException, UnsupportedOperationException {
        needDatum(datum);
        int program = expander.expand(store.cellOf(datum));
        if (program == 0) {
            throw new IllegalArgumentException("the program is wrong");
        }
        return needWritten(writer.putAll(true, program));
    }

    public char charAt(int index) throws IndexOutOfBoundsException {
        if (index < 0 || index >= writer.length) {
            throw new IndexOutOfBoundsException("no such place in the text");
        }
        return writer.signAt(index);
    }

    public int type(char character) throws IllegalArgumentException, IllegalStateException {
        if (character < 32 || character > 126) {
            throw new IllegalArgumentException("the character is out of range");
        }
        if (writer.length >= MAX_TEXT) {
            throw new IllegalStateException("the text is full");
        }
        return writer.append(character);
    }

    public int clear() {
        return writer.forget();
    }

    public int read() throws IllegalArgumentException, IllegalStateException {
        if (!reader.takes(writer)) {
            throw new IllegalArgumentException("the text is no datum");
        }
        if (reader.needed > MAX_DATA - store.count) {
            throw new IllegalStateException("there would be too many data");
        }
        store.makeRoom();
        return needLaid(reader.layAll(store));
    }

    // ---- running

    public char begin(int datum) throws IndexOutOfBoundsException {
        needDatum(datum);
        machine.stop();
        int program = expander.expand(store.cellOf(datum));
        counts.expansions += expander.used;
        return machine.start(program, expander.letter);
    }

    public char run(int fuel) throws IllegalStateException, IllegalArgumentException {
        needBegun();
        if (fuel < 1 || fuel > MAX_FUEL) {
            throw new IllegalArgumentException("the number of applications is out of range");
        }
        return machine.goOn(fuel);
    }

    public char state() throws IllegalStateException {
        needBegun();
        return machine.stateNow();
    }

    public char valueKind() throws IllegalStateException, NoSuchElementException {
        needValue();
        return store.letterOf(machine.result());
    }

    public long valueAmount() throws IllegalStateException, NoSuchElementException, UnsupportedOperationException {
        needValue();
        if (store.letterOf(machine.result()) != 'n') {
            throw new UnsupportedOperationException("the value is no number");
        }
        return store.firstFieldOf(machine.result());
    }

    public int writeValue() throws IllegalStateException, NoSuchElementException, UnsupportedOperationException {
        needValue();
        return needWritten(writer.putAll(false, machine.result()));
    }

    public char error() throws IllegalStateException, NoSuchElementException {
        needBegun();
        if (machine.stateNow() != 'e') {
            throw new NoSuchElementException("the run did not end with an error");
        }
        return machine.status;
    }

    public int winds() throws IllegalStateException {
        needBegun();
        return machine.countOfWinds();
    }

    public int handlers() throws IllegalStateException {
        needBegun();
        return machine.countOfHandlers();
    }

    public int writeGlobal(int symbol)
            throws IllegalArgumentException, NoSuchElementException, UnsupportedOperationException {
        needSymbol(symbol);
        int global = store.globalValue(symbol);
        if (global == 0) {
            throw new NoSuchElementException("no global variable with a value");
        }
        return needWritten(writer.putAll(false, global));
    }

    public char meaning(int symbol) throws IllegalArgumentException {
        needSymbol(symbol);
        switch (store.meaningOf(symbol)) {
            case KEYWORD:
                return 'k';
            case MACRO:
                return 'm';
            case VARIABLE:
                return 'v';
            default:
                return '-';
        }
    }

    // ---- counts

    public long applications() {
        return counts.applications;
    }

    public int expansions() {
        return counts.expansions;
    }

    public int entered() {
        return counts.entered;
    }

    public int left() {
        return counts.left;
    }

    public int jumps() {
        return counts.jumps;
    }

    public float valueShare() throws ArithmeticException {
        needEnded();
        return (float) counts.endedWithValue / (float) counts.ended;
    }

    public double meanApplications() throws ArithmeticException {
        needEnded();
        return (double) counts.applicationsOfEnded / (double) counts.ended;
    }

    public boolean isSound() {
        return store.areDataSound() && counts.entered - counts.left == counts.abandoned + machine.countOfWinds();
    }

    // ---- what the calls need

    private void needDatum(int datum) {
        if (!store.has(datum)) {
            throw new IndexOutOfBoundsException("no such datum");
        }
    }

    private void needSymbol(int symbol) {
        if (symbol < 0 || symbol >= SYMBOLS) {
            throw new IllegalArgumentException("no such symbol");
        }
    }

    private void needRoomForOne() {
        if (store.count >= MAX_DATA) {
            throw new IllegalStateException("there are too many data");
        }
    }

    private static int needLaid(int datum) {
        if (datum < 0) {
            throw new IllegalStateException("the datum cannot be laid");
        }
        return datum;
    }

    private static int needWritten(int length) {
        if (length < 0) {
            throw new UnsupportedOperationException("the text would be too long");
        }
        return length;
    }

    private void needBegun() {
        if (!machine.isBegun()) {
            throw new IllegalStateException("no program was begun");
        }
    }

    private void needValue() {
        needBegun();
        if (machine.status != 'v') {
            throw new NoSuchElementException("the run did not end with a value");
        }
    }

    private void needEnded() {
        if (counts.ended == 0) {
            throw new ArithmeticException("no run has ended");
        }
    }

    /** A row of numbers; outside of it there are zeros. It grows up to its most when a number is put behind its end. */
    private static final class Row {
        private final int most;
        private long[] words;
        int used; // how many of them count, where others may lie behind them

        Row(int length, int most) {
            this.most = most;
            words = new long[length < 0 ? 0 : length];
            used = words.length;
        }

        int get(int index) {
            return index >= 0 && index < words.length ? (int) words[index] : 0;
        }

        void put(int index, int word) {
            if (index >= words.length && index < most) {
                long[] more = new long[Math.min(most, Math.max(index + 1, 4 * words.length))];
                System.arraycopy(words, 0, more, 0, words.length);
                words = more;
            }
            if (index >= 0 && index < words.length) {
                words[index] = word;
            }
        }

        void add(int word) {
            put(used, word);
            used++;
        }

        void fillWithZeros() {
            for (int i = 0; i < words.length; i++) {
                words[i] = 0;
            }
        }
    }

    /** Cells, each with a head and three fields. Those that no root reaches are found by collect() and used again. */
    private static final class Heap {
        private static final int MAX_ROOTS = 16;
        private static final int MIN_DUE = 8192;
        private static final int MAX_STACK = 8192;
        // Few cells are known again in a small heap.
        private static final int SHARED = 16384;
        private static final int SHARED_SHIFT = 18;
        private static final int FEW_SHARED_SHIFT = 22;
        private static final int FEW_CHUNKS = 64;

        private final Row[] chunks;
        private int chunkCount;
        private final Row[] roots; // cells
        private int rootCount;
        private final Row[] slotRoots; // slots of code
        private int slotRootCount;
        private final Row[] weak; // cells that are forgotten if nothing else reaches them
        private int weakCount;
        private final Row shared;
        private int[] stack;
        private int stacked;
        private boolean isStackShort;
        private int free;
        int freeCells;
        private int made;
        private int due;
        private int live;
        int collections;

        Heap() {
            chunks = new Row[MAX_CHUNKS];
            roots = new Row[MAX_ROOTS];
            slotRoots = new Row[MAX_ROOTS];
            weak = new Row[MAX_ROOTS];
            due = MIN_DUE;
            shared = newWeakRow(SHARED);
            addChunk();
        }

        /** A new row of cells that stay as long as they stand in it. */
        Row newRoots(int length, int most) {
            Row row = new Row(length, most);
            if (rootCount < roots.length) {
                roots[rootCount] = row;
                rootCount++;
            }
            return row;
        }

        Row newSlotRoots(int length, int most) {
            Row row = new Row(length, most);
            if (slotRootCount < slotRoots.length) {
                slotRoots[slotRootCount] = row;
                slotRootCount++;
            }
            return row;
        }

        Row newWeakRow(int most) {
            Row row = new Row(16, most);
            if (weakCount < weak.length) {
                weak[weakCount] = row;
                weakCount++;
            }
            return row;
        }

        /** Lets so many cells be free, if that can be; whether a reserve is left besides. */
        boolean makeRoom(int cells, int reserve) {
            if (made >= due) {
                collect();
            }
            addChunks(cells);
            if (made > 0 && spareCells() < cells + reserve) {
                collect();
                addChunks(cells);
            }
            return spareCells() >= cells + reserve;
        }

        private int spareCells() {
            return freeCells + (MAX_CHUNKS - chunkCount) * CHUNK_CELLS;
        }

        private void addChunks(int cells) {
            for (int i = 0; i < MAX_CHUNKS && freeCells < cells && chunkCount < MAX_CHUNKS; i++) {
                addChunk();
            }
        }

        private void addChunk() {
            if (chunkCount >= chunks.length) {
                return;
            }
            chunks[chunkCount] = new Row(2 * CHUNK_CELLS, 0);
            int first = Math.max(1, chunkCount * CHUNK_CELLS);
            chunkCount++;
            for (int cell = chunkCount * CHUNK_CELLS - 1; cell >= first; cell--) {
                put(cell, ITEM, free);
                free = cell;
                freeCells++;
            }
        }

        /** A new cell; 0 if none is free. */
        int make(int cellKind, int note, int one, int two, int three) {
            int cell = free;
            int place = cell >> CHUNK_BITS;
            int index = (cell & CHUNK_CELLS - 1) << 1;
            if (cell <= 0 || place >= chunks.length || chunks[place] == null || index + 1 >= chunks[place].words.length) {
                return 0;
            }
            long[] words = chunks[place].words;
            free = (int) (words[index] >>> 32);
            words[index] = (cellKind | note << NOTE_SHIFT) & LOW_WORD | (long) one << 32;
            words[index + 1] = two & LOW_WORD | (long) three << 32;
            freeCells--;
            made++;
            return cell;
        }

        /** A cell that is never changed: one like it that was made before, if that is still known. */
        int makeShared(int cellKind, int note, int one, int two, int three) {
            int hash = ((((cellKind * 31 + note) * 31 + one) * 31 + two) * 31 + three) * 0x9E3779B1;
            int place = hash >>> (chunkCount < FEW_CHUNKS ? FEW_SHARED_SHIFT : SHARED_SHIFT);
            int cell = shared.get(place);
            if (cell != 0
                    && (at(cell, HEAD) & ~(MARKED | KEPT | GRAY)) == (cellKind | note << NOTE_SHIFT)
                    && at(cell, 1) == one
                    && at(cell, 2) == two
                    && at(cell, 3) == three) {
                return cell;
            }
            cell = make(cellKind, note, one, two, three);
            shared.put(place, cell);
            return cell;
        }

        int at(int cell, int field) {
            int place = cell >> CHUNK_BITS;
            if (place < 0 || place >= chunks.length || chunks[place] == null) {
                return 0;
            }
            long[] words = chunks[place].words;
            int index = ((cell & CHUNK_CELLS - 1) << 1) + (field >> 1);
            return index >= 0 && index < words.length ? (int) (words[index] >>> ((field & 1) << 5)) : 0;
        }

        void put(int cell, int field, int word) {
            int place = cell >> CHUNK_BITS;
            int index = ((cell & CHUNK_CELLS - 1) << 1) + (field >> 1);
            if (cell <= 0 || place >= chunks.length || chunks[place] == null || index >= chunks[place].words.length) {
                return;
            }
            long[] words = chunks[place].words;
            if (index >= 0) {
                boolean isLow = (field & 1) == 0;
                long old = words[index];
                words[index] = isLow ? old & ~LOW_WORD | word & LOW_WORD : old & LOW_WORD | (long) word << 32;
            }
        }

        int kindOf(int cell) {
            int place = cell >> CHUNK_BITS;
            int index = (cell & CHUNK_CELLS - 1) << 1;
            boolean isThere = place >= 0 && place < chunks.length && chunks[place] != null;
            return isThere && index < chunks[place].words.length ? (int) chunks[place].words[index] & KIND_MASK : FREE;
        }

        int noteOf(int cell) {
            int place = cell >> CHUNK_BITS;
            int index = (cell & CHUNK_CELLS - 1) << 1;
            boolean isThere = place >= 0 && place < chunks.length && chunks[place] != null;
            return isThere && index < chunks[place].words.length ? (int) chunks[place].words[index] >>> NOTE_SHIFT : 0;
        }

        void setNote(int cell, int note) {
            put(cell, HEAD, at(cell, HEAD) & (1 << NOTE_SHIFT) - 1 | note << NOTE_SHIFT);
        }

        /** Gives a cell back that nothing reaches any more. */
        void release(int cell) {
            put(cell, HEAD, FREE);
            put(cell, ITEM, free);
            free = cell;
            freeCells++;
        }

        /** Lets a cell stay for ever; all that it reaches must stay, too. */
        void keep(int cell) {
            put(cell, HEAD, at(cell, HEAD) | KEPT);
        }

        /**
         * Whether the primitive 21 holds. Numbers are the same by what they are; closures and lists may be made again
         * whenever they are looked for, so these are known by all that they are, too.
         */
        boolean areSame(int one, int other) {
            if (one == other) {
                return true;
            }
            int place = one >> CHUNK_BITS;
            int otherPlace = other >> CHUNK_BITS;
            int index = (one & CHUNK_CELLS - 1) << 1;
            int otherIndex = (other & CHUNK_CELLS - 1) << 1;
            if (place < 0 || place >= chunks.length || otherPlace < 0 || otherPlace >= chunks.length) {
                return false;
            }
            if (chunks[place] == null || chunks[otherPlace] == null) {
                return false;
            }
            long[] words = chunks[place].words;
            long[] otherWords = chunks[otherPlace].words;
            if (index + 1 >= words.length || otherIndex + 1 >= otherWords.length) {
                return false;
            }
            int cellKind = (int) words[index] & KIND_MASK;
            return (cellKind == NUMBER || cellKind == CLOSURE || cellKind == VIEW)
                    && ((int) otherWords[otherIndex] & KIND_MASK) == cellKind
                    && words[index] >>> 32 == otherWords[otherIndex] >>> 32
                    && words[index + 1] == otherWords[otherIndex + 1];
        }

        private void collect() {
            stacked = 0;
            isStackShort = false;
            stack = stack == null ? new int[MAX_STACK] : stack;
            for (int i = 0; i < rootCount && i < roots.length; i++) {
                for (int j = 0; roots[i] != null && j < roots[i].used; j++) {
                    shade(roots[i].get(j));
                }
                scanStacked();
            }
            for (int i = 0; i < slotRootCount && i < slotRoots.length; i++) {
                for (int j = 0; slotRoots[i] != null && j < slotRoots[i].used; j++) {
                    int slot = slotRoots[i].get(j);
                    shade((slot & TAG_MASK) <= QUOTATION ? slot >>> SLOT_SHIFT : 0);
                }
                scanStacked();
            }
            for (int i = 0; i < MAX_CELLS && isStackShort; i++) {
                isStackShort = false;
                scanGray();
            }
            forgetUnmarked();
            sweep();
            made = 0;
            due = Math.max(MIN_DUE, live / 2);
            collections++;
        }

        /** Marks a cell, and puts it on the stack, so that what it reaches is marked, too. */
        private void shade(int cell) {
            int place = cell >> CHUNK_BITS;
            int index = (cell & CHUNK_CELLS - 1) << 1;
            if (cell <= 0 || place >= chunks.length || chunks[place] == null || index >= chunks[place].words.length) {
                return;
            }
            long[] words = chunks[place].words;
            int head = (int) words[index];
            if ((head & (MARKED | KEPT)) != 0 || (head & KIND_MASK) == FREE) {
                return;
            }
            boolean hasPlace = stack != null && stacked >= 0 && stacked < stack.length;
            words[index] |= hasPlace ? MARKED : MARKED | GRAY;
            if (hasPlace) {
                stack[stacked] = cell;
                stacked++;
            } else {
                isStackShort = true;
            }
        }

        private void scanStacked() {
            for (int i = 0; i < MAX_STEPS && stack != null && stacked > 0 && stacked <= stack.length; i++) {
                stacked--;
                int cell = stack[stacked];
                int head = at(cell, HEAD);
                int cellKind = head & KIND_MASK;
                int fields = cellKind < REFERENCES.length ? REFERENCES[cellKind] : 0;
                // The next one of a row is taken from the stack behind the others: so a long row needs little of it.
                if ((fields & 8) != 0) {
                    shade(head >>> NOTE_SHIFT);
                }
                for (int j = 0; j < 3; j++) {
                    int field = j == 0 ? 2 : j == 1 ? 1 : 3;
                    int word = at(cell, field);
                    boolean isSlot = (fields & 16 << field - 1) != 0 && (word & TAG_MASK) <= QUOTATION;
                    if (isSlot || (fields & 1 << field - 1) != 0) {
                        shade(isSlot ? word >>> SLOT_SHIFT : word);
                    }
                }
            }
        }

        /** Scans the cells for which there was no place on the stack. */
        private void scanGray() {
            for (int cell = 1; cell < chunkCount * CHUNK_CELLS; cell++) {
                if ((at(cell, HEAD) & GRAY) != 0 && stack != null && stack.length > 0) {
                    put(cell, HEAD, at(cell, HEAD) & ~GRAY);
                    stack[0] = cell;
                    stacked = 1;
                    scanStacked();
                }
            }
        }

        private void forgetUnmarked() {
            for (int i = 0; i < weakCount && i < weak.length; i++) {
                Row row = weak[i];
                for (int j = 0; row != null && j < row.words.length; j++) {
                    if (row.get(j) != 0 && (at(row.get(j), HEAD) & (MARKED | KEPT)) == 0) {
                        row.put(j, 0);
                    }
                }
            }
        }

        private void sweep() {
            live = 0;
            free = 0;
            freeCells = 0;
            for (int cell = chunkCount * CHUNK_CELLS - 1; cell > 0; cell--) {
                int head = at(cell, HEAD);
                if ((head & (MARKED | KEPT)) != 0) {
                    put(cell, HEAD, head & ~MARKED);
                    live++;
                } else {
                    put(cell, HEAD, FREE);
                    put(cell, ITEM, free);
                    free = cell;
                    freeCells++;
                }
            }
        }
    }

    /** The laid data, the global variables, and what data are to one another. */
    private static final class Store {
        private final Heap heap;
        private final int[] cells;
        private final int[] firsts;
        private final int[] rests;
        int count;
        private final int[] meanings;
        private final Row contents; // values of global variables, literals and rules of macros

        Store(Heap heap) {
            this.heap = heap;
            cells = new int[MAX_DATA];
            firsts = new int[MAX_DATA];
            rests = new int[MAX_DATA];
            meanings = new int[SYMBOLS];
            contents = heap.newRoots(SYMBOLS, SYMBOLS);
            for (int symbol = 0; symbol < SYMBOLS; symbol++) {
                heap.keep(heap.make(SYMBOL, 0, symbol, 0, 0));
            }
            heap.keep(heap.make(TRUTH, 0, 0, 0, 0));
            heap.keep(heap.make(TRUTH, 0, 1, 0, 0));
            heap.keep(heap.make(EMPTY, 0, 0, 0, 0));
            heap.keep(heap.make(NOTHING, 0, 0, 0, 0));
            for (int symbol = FIRST_PRIMITIVE; symbol <= LAST_PRIMITIVE; symbol++) {
                heap.keep(heap.make(PRIMITIVE, 0, symbol, 0, 0));
            }
            for (int symbol = FIRST_PRIMITIVE; symbol <= LAST_PRIMITIVE; symbol++) {
                define(symbol, VARIABLE, PRIMITIVE_CELLS + symbol);
            }
            for (int symbol = QUOTE_SYMBOL; symbol <= SYNTAX_SYMBOL; symbol++) {
                meanings[symbol] = KEYWORD;
            }
        }

        boolean has(int datum) {
            return datum >= 0 && datum < count;
        }

        int cellOf(int datum) {
            return has(datum) && datum < cells.length ? cells[datum] : 0;
        }

        /** Lets there be room for the cells of a datum. */
        void makeRoom() {
            if (heap.freeCells < CHUNK_CELLS) {
                heap.makeRoom(CHUNK_CELLS, 0);
            }
        }

        /** The number of a new number; -1 if there is none left. */
        int layNumber(long numerator, long denominator) {
            return lay(fraction(heap, numerator, denominator));
        }

        /** Gives a cell that is no pair the next number; -1 if there is none left. */
        int lay(int cell) {
            return layParts(cell, -1, -1);
        }

        /** The number of a new pair; -1 if it would be too many, too deep or too large. */
        int layPair(int first, int rest) {
            int cell = count < MAX_DATA ? pairOf(cellOf(first), cellOf(rest), MAX_LAID_DEPTH) : 0;
            return layParts(cell, first, rest);
        }

        private int layParts(int cell, int first, int rest) {
            if (cell == 0 || count < 0 || count >= MAX_DATA) {
                return -1;
            }
            heap.keep(cell);
            cells[count] = cell;
            firsts[count] = first;
            rests[count] = rest;
            count++;
            return count - 1;
        }

        int partOf(int datum, boolean isFirst) {
            if (!has(datum) || datum >= MAX_DATA) {
                return -1;
            }
            return isFirst ? firsts[datum] : rests[datum];
        }

        long amountOf(int datum) {
            return heap.at(cellOf(datum), AMOUNT);
        }

        int firstFieldOf(int cell) {
            return heap.at(cell, AMOUNT);
        }

        double quotientOf(int datum) {
            int denominator = heap.at(cellOf(datum), DENOMINATOR);
            return denominator == 0 ? 0.0 : (double) heap.at(cellOf(datum), AMOUNT) / (double) denominator;
        }

        char letterOf(int cell) {
            switch (heap.kindOf(cell)) {
                case NUMBER:
                    return 'n';
                case SYMBOL:
                case RENAMED:
                    return 's';
                case TRUTH:
                    return 't';
                case EMPTY:
                    return 'e';
                case PAIR:
                case VIEW:
                    return 'p';
                case CLOSURE:
                    return 'c';
                case PRIMITIVE:
                    return 'f';
                case CONTINUATION:
                    return 'k';
                default:
                    return 'u';
            }
        }

        boolean areDataSound() {
            for (int datum = 0; datum < count && datum < MAX_DATA; datum++) {
                int cell = cells[datum];
                int cellKind = heap.kindOf(cell);
                if (cellKind == NUMBER && !isInLowestTerms(heap.at(cell, AMOUNT), heap.at(cell, DENOMINATOR))) {
                    return false;
                }
                if (cellKind == PAIR && !arePartsLower(datum)) {
                    return false;
                }
            }
            return true;
        }

        private boolean arePartsLower(int datum) {
            int first = partOf(datum, true);
            int rest = partOf(datum, false);
            return first >= 0 && first < datum && rest >= 0 && rest < datum;
        }

        private static boolean isInLowestTerms(int numerator, int denominator) {
            return denominator >= 1
                    && denominator <= MAX_AMOUNT
                    && numerator >= -MAX_AMOUNT
                    && numerator <= MAX_AMOUNT
                    && commonDivisor(numerator, denominator) == 1;
        }

        /** The greatest common divisor of two numbers that are not both 0. */
        private static long commonDivisor(long one, long other) {
            long a = one < 0 ? -one : one;
            long b = other < 0 ? -other : other;
            for (int i = 0; i < 200 && b != 0; i++) {
                long remainder = a % b;
                a = b;
                b = remainder;
            }
            return a == 0 ? 1 : a;
        }

        /** Whether there is such a number, in lowest terms, and it is in range. */
        static boolean fits(long numerator, long denominator) {
            if (denominator == 0) {
                return false;
            }
            long divisor = commonDivisor(numerator, denominator);
            long top = numerator / divisor;
            long bottom = denominator / divisor;
            return top >= -MAX_AMOUNT && top <= MAX_AMOUNT && bottom >= -MAX_AMOUNT && bottom <= MAX_AMOUNT;
        }

        /** A new number in lowest terms; 0 if there is none or it is out of range. */
        static int fraction(Heap heap, long numerator, long denominator) {
            if (denominator == 0) {
                return 0;
            }
            long divisor = commonDivisor(numerator, denominator);
            long signed = denominator < 0 ? -divisor : divisor;
            long top = numerator / signed;
            long bottom = denominator / signed;
            if (top < -MAX_AMOUNT || top > MAX_AMOUNT || bottom > MAX_AMOUNT) {
                return 0;
            }
            return heap.make(NUMBER, 0, (int) top, (int) bottom, 0);
        }

        int measureOf(int cell) {
            switch (heap.kindOf(cell)) {
                case PAIR:
                    return heap.at(cell, MEASURE);
                case RENAMED:
                    return MEASURE_OF_ONE | RENAMED_INSIDE;
                default:
                    return MEASURE_OF_ONE;
            }
        }

        /** A new pair with its measure; 0 if it would be too deep or too large. */
        int pairOf(int first, int rest, int deepest) {
            int one = measureOf(first);
            int other = measureOf(rest);
            int size = (one & SIZE_MASK) + (other & SIZE_MASK) + 1;
            int depth = Math.max((one >> DEPTH_SHIFT & DEPTH_MASK) + 1, other >> DEPTH_SHIFT & DEPTH_MASK);
            if (size > MAX_SIZE || depth > deepest) {
                return 0;
            }
            return heap.make(PAIR, 0, first, rest, (one | other) & RENAMED_INSIDE | depth << DEPTH_SHIFT | size);
        }

        boolean isName(int cell) {
            int cellKind = heap.kindOf(cell);
            return cellKind == SYMBOL || cellKind == RENAMED;
        }

        /** The symbol of a name; -1 if it is none. */
        int symbolOf(int cell) {
            int name = cell;
            for (int i = 0; i < MAX_CELLS && heap.kindOf(name) == RENAMED; i++) {
                name = heap.at(name, UNDER);
            }
            return heap.kindOf(name) == SYMBOL ? heap.at(name, AMOUNT) : -1;
        }

        /** Whether two names are the same: one symbol, or the same mark on the same name. */
        boolean areSameNames(int name, int other) {
            int a = name;
            int b = other;
            for (int i = 0;
                    i < MAX_CELLS
                            && a != b
                            && heap.kindOf(a) == RENAMED
                            && heap.kindOf(b) == RENAMED
                            && heap.at(a, MARK) == heap.at(b, MARK);
                    i++) {
                a = heap.at(a, UNDER);
                b = heap.at(b, UNDER);
            }
            return a == b;
        }

        /** The first cell of a row whose item is the same name as this one; 0 if there is none. */
        int find(int name, int row) {
            int cell = row;
            for (int i = 0; i < MAX_CELLS && cell != 0; i++) {
                if (areSameNames(heap.at(cell, ITEM), name)) {
                    return cell;
                }
                cell = heap.at(cell, NEXT);
            }
            return 0;
        }

        /** The number of parts of a list; -1 if it does not end with the empty list. */
        int lengthOf(int list) {
            int length = 0;
            int cell = list;
            for (int i = 0; i < MAX_CELLS && heap.kindOf(cell) == PAIR; i++) {
                cell = heap.at(cell, REST);
                length++;
            }
            return heap.kindOf(cell) == EMPTY ? length : -1;
        }

        boolean areShapedAlike(int cell, int other) {
            return haveOneShape(cell, other, 0);
        }

        private boolean haveOneShape(int cell, int other, int level) {
            int a = cell;
            int b = other;
            for (int i = 0; i < MAX_SIZE && heap.kindOf(a) == PAIR && heap.kindOf(b) == PAIR; i++) {
                boolean areFirstsAlike =
                        level < MAX_LEVEL && haveOneShape(heap.at(a, FIRST), heap.at(b, FIRST), level + 1);
                if (!areFirstsAlike) {
                    return false;
                }
                a = heap.at(a, REST);
                b = heap.at(b, REST);
            }
            return heap.areSame(a, b);
        }

        int meaningOf(int symbol) {
            return symbol >= 0 && symbol < meanings.length ? meanings[symbol] : UNKNOWN;
        }

        /** The value of a global variable; 0 if there is none. */
        int globalValue(int symbol) {
            return meaningOf(symbol) == VARIABLE ? contents.get(symbol) : 0;
        }

        /** The literals and rules of a macro; 0 if it is none. */
        int rulesOf(int symbol) {
            return meaningOf(symbol) == MACRO ? contents.get(symbol) : 0;
        }

        void define(int symbol, int newMeaning, int content) {
            if (symbol < 0 || symbol >= meanings.length) {
                return;
            }
            meanings[symbol] = newMeaning;
            contents.put(symbol, content);
        }
    }

    /** The text, and data and expanded programs written into it; what would be too long leaves it as it was. */
    private static final class Writer {
        // What is still to be written: a datum, what follows behind a part of a list, a form, the forms from a place in
        // some parts on, ")", and nothing, but behind the body of a lambda its variables are no longer bound.
        private static final int DATUM = 0;
        private static final int TAIL = 1;
        private static final int FORM = 2;
        private static final int FORMS = 3;
        private static final int CLOSE = 4;
        private static final int UNBIND = 5;
        private static final int JOB_MASK = 7;
        private static final int MAX_JOBS = 2048;
        private static final int MOST_MADE = 2048;

        private final Heap heap;
        private final Values values;
        private final char[] text;
        int length;
        private final char[] draft;
        private int drafted;
        private final Row jobs;
        private final Row subjects;
        private int waiting;
        private final Row binders; // the number of the first variable of each lambda around
        private int bindersAround;
        private int variables;

        Writer(Heap heap, Values values) {
            this.heap = heap;
            this.values = values;
            text = new char[MAX_TEXT];
            draft = new char[MAX_TEXT];
            jobs = new Row(MAX_JOBS, MAX_JOBS);
            subjects = new Row(MAX_JOBS, MAX_JOBS);
            binders = new Row(MAX_LEVEL, MAX_LEVEL);
        }

        char signAt(int index) {
            return index >= 0 && index < length && index < text.length ? text[index] : ' ';
        }

        int append(char sign) {
            if (length >= 0 && length < text.length) {
                text[length] = sign;
                length++;
            }
            return length;
        }

        int forget() {
            int before = length;
            length = 0;
            return before;
        }

        /** Writes a datum, or the slot of a program: the length of the text; -1 if it would be too long. */
        int putAll(boolean isProgram, int subject) {
            if (heap.freeCells < MOST_MADE) {
                heap.makeRoom(MOST_MADE, 0);
            }
            drafted = 0;
            waiting = 0;
            bindersAround = 0;
            variables = 0;
            later(isProgram ? FORM : DATUM, subject, 0);
            for (int i = 0; i < MAX_CELLS && waiting > 0 && drafted <= MAX_TEXT; i++) {
                waiting--;
                int next = subjects.get(waiting);
                int index = jobs.get(waiting) / (JOB_MASK + 1);
                switch (jobs.get(waiting) & JOB_MASK) {
                    case DATUM:
                        startDatum(next);
                        break;
                    case TAIL:
                        putTail(next);
                        break;
                    case FORM:
                        startForm(next);
                        break;
                    case FORMS:
                        putForms(next, index);
                        break;
                    case CLOSE:
                        put(')');
                        break;
                    default:
                        bindersAround--;
                }
            }
            if (drafted > MAX_TEXT) {
                return -1;
            }
            System.arraycopy(draft, 0, text, 0, drafted);
            length = drafted;
            return length;
        }

        private void later(int job, int subject, int index) {
            jobs.put(waiting, job + index * (JOB_MASK + 1));
            subjects.put(waiting, subject);
            waiting++;
        }

        private void put(char sign) {
            if (drafted >= 0 && drafted < draft.length) {
                draft[drafted] = sign;
            }
            drafted++;
        }

        private void putWord(String word) {
            for (int i = 0; i < word.length(); i++) {
                put(word.charAt(i));
            }
        }

        private void putNumber(int number) {
            long rest = number;
            if (rest < 0) {
                put('-');
                rest = -rest;
            }
            boolean isBegun = false;
            for (long unit = 1000000000L; unit >= 1; unit /= 10) {
                long digit = rest / unit % 10;
                isBegun = isBegun || digit != 0 || unit == 1;
                if (isBegun) {
                    put((char) ('0' + digit));
                }
            }
        }

        private void putNamed(char sign, int number) {
            put(sign);
            putNumber(number);
        }

        private void startDatum(int cell) {
            switch (heap.kindOf(cell)) {
                case NUMBER:
                    putNumber(heap.at(cell, AMOUNT));
                    if (heap.at(cell, DENOMINATOR) != 1) {
                        put('/');
                        putNumber(heap.at(cell, DENOMINATOR));
                    }
                    break;
                case SYMBOL:
                    putNamed('s', heap.at(cell, AMOUNT));
                    break;
                case TRUTH:
                    putWord(cell == TRUE_CELL ? "#t" : "#f");
                    break;
                case EMPTY:
                    putWord("()");
                    break;
                case PAIR:
                case VIEW:
                    put('(');
                    later(TAIL, values.restOf(cell), 0);
                    later(DATUM, values.firstOf(cell), 0);
                    break;
                case CLOSURE:
                    putWord("#c");
                    break;
                case PRIMITIVE:
                    putWord("#p");
                    putNumber(heap.at(cell, AMOUNT));
                    break;
                case CONTINUATION:
                    putWord("#k");
                    break;
                default:
                    putWord("#u");
            }
        }

        private void putTail(int cell) {
            int cellKind = heap.kindOf(cell);
            if (cellKind == EMPTY) {
                put(')');
            } else if (cellKind == PAIR || cellKind == VIEW) {
                put(' ');
                later(TAIL, values.restOf(cell), 0);
                later(DATUM, values.firstOf(cell), 0);
            } else {
                putWord(" . ");
                later(CLOSE, 0, 0);
                later(DATUM, cell, 0);
            }
        }

        private void putForms(int parts, int index) {
            int slot = heap.at(parts, index + 1);
            if (slot == 0) {
                put(')');
            } else {
                put(' ');
                laterForms(parts, index + 1);
                later(FORM, slot, 0);
            }
        }

        private void laterForms(int parts, int index) {
            later(FORMS, index < 3 ? parts : heap.noteOf(parts), index % 3);
        }

        private void startForm(int slot) {
            int content = slot >>> SLOT_SHIFT;
            switch (slot & TAG_MASK) {
                case CALL:
                    put('(');
                    laterForms(content, 1);
                    later(FORM, heap.at(content, 1), 0);
                    break;
                case BRANCH:
                    putWord("(if");
                    laterForms(content, 0);
                    break;
                case SEQUENCE:
                    putWord("(begin");
                    laterForms(content, 0);
                    break;
                case CONSTANT:
                    later(DATUM, content, 0);
                    break;
                case QUOTATION:
                    putWord("(quote ");
                    later(CLOSE, 0, 0);
                    later(DATUM, content, 0);
                    break;
                case LOCAL:
                    putVariable(slot);
                    break;
                case GLOBAL:
                    putNamed('s', content);
                    break;
                default:
                    startOther(content);
            }
        }

        private void putVariable(int slot) {
            int first = binders.get(bindersAround - 1 - (slot >>> DEPTH_OUT_SHIFT));
            putNamed('x', first + (slot >> SLOT_SHIFT & PLACE_MASK));
        }

        private void startOther(int cell) {
            int info = heap.at(cell, ITEM);
            switch (heap.kindOf(cell)) {
                case LAMBDA:
                    putWord("(lambda ");
                    startLambda(info >> 1, (info & 1) != 0);
                    laterForms(heap.at(cell, NEXT), 0);
                    return;
                case SET_LOCAL:
                    putWord("(set ");
                    putVariable(info);
                    break;
                case SET_GLOBAL:
                    putWord("(set ");
                    putNamed('s', info);
                    break;
                case DEFINITION:
                    putWord("(define ");
                    putNamed('s', info);
                    break;
                default:
                    putWord("(define-syntax ");
                    putNamed('s', info);
                    put(')');
                    return;
            }
            put(' ');
            later(CLOSE, 0, 0);
            later(FORM, heap.at(cell, NEXT), 0);
        }

        /** Writes the parameters of a lambda, which are bound up to the end of its body. */
        private void startLambda(int parameters, boolean hasRest) {
            int first = variables;
            int bound = parameters + (hasRest ? 1 : 0);
            variables += bound;
            if (bound > 0) {
                binders.put(bindersAround, first);
                bindersAround++;
                later(UNBIND, 0, 0);
            }
            if (parameters == 0 && hasRest) {
                putNamed('x', first);
                return;
            }
            put('(');
            for (int i = 0; i < parameters && drafted <= MAX_TEXT; i++) {
                if (i > 0) {
                    put(' ');
                }
                putNamed('x', first + i);
            }
            if (hasRest) {
                putWord(" . ");
                putNamed('x', first + parameters);
            }
            put(')');
        }
    }

    /** Takes the text apart, looks whether it is one datum, and lays it. */
    private static final class Reader {
        private static final int MAX_DIGITS = 18;

        // The pieces: '(', ')', '.', 'n' a number, 's' a symbol, 't' a truth.
        private final char[] pieces;
        private final long[] tops;
        private final long[] bottoms;
        private int pieceCount;
        int needed;
        // The lists that are open: how far each one is, the depth of its parts, where its parts begin.
        private final Row stages;
        private final Row depths;
        private final Row parts;
        private int open;

        Reader() {
            pieces = new char[MAX_TEXT];
            tops = new long[MAX_TEXT];
            bottoms = new long[MAX_TEXT];
            stages = new Row(MAX_TEXT + 1, MAX_TEXT + 1);
            depths = new Row(MAX_TEXT + 1, MAX_TEXT + 1);
            parts = new Row(MAX_TEXT + 1, MAX_TEXT + 1);
        }

        /** Whether the text is one datum that is not too deep; then needed is how many data it would lay. */
        boolean takes(Writer text) {
            return isSplit(text) && isOneDatum();
        }

        private boolean isSplit(Writer text) {
            pieceCount = 0;
            int index = 0;
            for (int i = 0; i < MAX_TEXT && index < text.length; i++) {
                char sign = text.signAt(index);
                int end = index + 1;
                if (sign == '(' || sign == ')') {
                    addPiece(sign, 0, 1);
                } else if (sign != ' ') {
                    end = endOfPiece(text, index);
                    if (!isPiece(text, index, end)) {
                        return false;
                    }
                }
                index = end;
            }
            return true;
        }

        private static int endOfPiece(Writer text, int start) {
            for (int i = start; i < text.length; i++) {
                char sign = text.signAt(i);
                if (sign == ' ' || sign == '(' || sign == ')') {
                    return i;
                }
            }
            return text.length;
        }

        private void addPiece(char piece, long top, long bottom) {
            if (pieceCount >= 0 && pieceCount < MAX_TEXT) {
                pieces[pieceCount] = piece;
                tops[pieceCount] = top;
                bottoms[pieceCount] = bottom;
                pieceCount++;
            }
        }

        private boolean isPiece(Writer text, int start, int end) {
            char sign = text.signAt(start);
            if (sign == '.') {
                addPiece('.', 0, 1);
                return end == start + 1;
            }
            if (sign == '#') {
                char letter = end == start + 2 ? text.signAt(start + 1) : ' ';
                addPiece('t', letter == 't' ? 1 : 0, 1);
                return letter == 't' || letter == 'f';
            }
            if (sign == 's') {
                long symbol = digits(text, start + 1, end);
                addPiece('s', symbol, 1);
                return symbol >= 0 && symbol < SYMBOLS;
            }
            return isNumber(text, start, end);
        }

        private boolean isNumber(Writer text, int start, int end) {
            boolean isNegative = text.signAt(start) == '-';
            int slash = end;
            for (int i = end - 1; i >= start; i--) {
                if (text.signAt(i) == '/') {
                    slash = i;
                }
            }
            long top = digits(text, isNegative ? start + 1 : start, slash);
            long bottom = slash == end ? 1 : digits(text, slash + 1, end);
            if (top < 0 || bottom < 0) {
                return false;
            }
            addPiece('n', isNegative ? -top : top, bottom);
            return Store.fits(top, bottom);
        }

        /** The number that 1 to 18 digits are; -1 if they are none. */
        private static long digits(Writer text, int start, int end) {
            if (end <= start || end - start > MAX_DIGITS) {
                return -1;
            }
            long number = 0;
            for (int i = start; i < end; i++) {
                char sign = text.signAt(i);
                if (sign < '0' || sign > '9') {
                    return -1;
                }
                number = number * 10 + (sign - '0');
            }
            return number;
        }

        // The stages of an open list: 0 without parts, 1 with parts, 2 behind a point, 3 behind what ends it.
        // At the bottom lies the whole text: it is at stage 2 as long as its one datum is missing.
        private boolean isOneDatum() {
            open = 0;
            needed = 0;
            stages.put(0, 2);
            for (int i = 0; i < pieceCount && i < MAX_TEXT; i++) {
                boolean isRight;
                switch (pieces[i]) {
                    case '(':
                        open++;
                        stages.put(open, 0);
                        depths.put(open, 1);
                        isRight = true;
                        break;
                    case ')':
                        isRight = closes();
                        break;
                    case '.':
                        isRight = stages.get(open) == 1;
                        stages.put(open, 2);
                        break;
                    default:
                        needed++;
                        isRight = takesPart(1);
                }
                if (!isRight) {
                    return false;
                }
            }
            return open == 0 && stages.get(0) == 3;
        }

        private boolean takesPart(int depth) {
            int stage = stages.get(open);
            boolean isEnd = stage == 2;
            stages.put(open, isEnd ? 3 : 1);
            depths.put(open, Math.max(depths.get(open), isEnd ? depth : depth + 1));
            if (!isEnd) {
                needed++;
            }
            return stage != 3 && depth <= MAX_LAID_DEPTH;
        }

        private boolean closes() {
            int stage = stages.get(open);
            if (open == 0 || stage == 2) {
                return false;
            }
            if (stage != 3) {
                needed++;
            }
            int depth = depths.get(open);
            open--;
            return takesPart(depth);
        }

        /** Lays the datum that was looked at; its number, or -1 if there is no room. */
        int layAll(Store store) {
            open = 0;
            int top = 0;
            for (int i = 0; i < pieceCount && i < MAX_TEXT; i++) {
                switch (pieces[i]) {
                    case '(':
                        open++;
                        stages.put(open, 0);
                        depths.put(open, top);
                        break;
                    case ')':
                        int start = depths.get(open);
                        parts.put(start, layList(store, start, top));
                        top = start + 1;
                        open--;
                        break;
                    case '.':
                        stages.put(open, 2);
                        break;
                    default:
                        parts.put(top, layPiece(store, i));
                        top++;
                }
            }
            return parts.get(0);
        }

        private int layList(Store store, int start, int top) {
            boolean isDotted = stages.get(open) == 2;
            int last = isDotted ? top - 1 : top;
            int list = isDotted ? parts.get(last) : store.lay(EMPTY_CELL);
            for (int i = last - 1; i >= start; i--) {
                list = store.layPair(parts.get(i), list);
            }
            return list;
        }

        private int layPiece(Store store, int index) {
            if (index < 0 || index >= MAX_TEXT) {
                return -1;
            }
            long top = tops[index];
            switch (pieces[index]) {
                case 's':
                    return store.lay(FIRST_SYMBOL_CELL + (int) top);
                case 't':
                    return store.lay(top == 1 ? TRUE_CELL : FALSE_CELL);
                default:
                    return store.layNumber(top, bottoms[index]);
            }
        }
    }

    /**
     * Macros: whether their patterns are right, what they match, and what templates come to. A variable that is a row is
     * bound to the whole list, with the pattern ahead of the ellipsis; so it takes no cells for what is in the list, until
     * the parts of the list are matched with that pattern, one behind the other.
     */
    private static final class Macros {
        private final Heap heap;
        private final Store store;
        private long literals;
        private int scope;
        private int names;
        private int bindings; // of the variables of patterns
        private int mark;
        private int size;
        private int rows; // patterns with what is left of their lists
        private int rowLength;
        private boolean areRowsEven;

        Macros(Heap heap, Store store) {
            this.heap = heap;
            this.store = store;
        }

        /** Whether this is a list of literals and of rules with right patterns. */
        boolean areRules(int definition) {
            if (heap.kindOf(definition) != PAIR || !areLiterals(heap.at(definition, FIRST))) {
                return false;
            }
            int rules = heap.at(definition, REST);
            for (int i = 0; i < MAX_SIZE && heap.kindOf(rules) == PAIR; i++) {
                int rule = heap.at(rules, FIRST);
                int pattern = heap.at(rule, FIRST);
                names = 0;
                if (store.lengthOf(rule) != 2
                        || heap.kindOf(pattern) != PAIR
                        || !isRightPattern(heap.at(pattern, REST), 0)) {
                    return false;
                }
                rules = heap.at(rules, REST);
            }
            return true;
        }

        /** Whether this is a list of names; they become the literals. */
        private boolean areLiterals(int list) {
            literals = 0;
            int cell = list;
            for (int i = 0; i < MAX_SIZE && heap.kindOf(cell) == PAIR; i++) {
                int symbol = store.symbolOf(heap.at(cell, FIRST));
                if (symbol < 0) {
                    return false;
                }
                literals |= 1L << symbol;
                cell = heap.at(cell, REST);
            }
            return heap.kindOf(cell) == EMPTY;
        }

        private boolean isLiteral(int symbol) {
            return symbol >= 0 && (literals >> symbol & 1) != 0;
        }

        private boolean isVariable(int symbol) {
            boolean hasMeaning = symbol == BLANK_SYMBOL || symbol == ELLIPSIS_SYMBOL;
            return symbol >= 0 && !hasMeaning && (literals >> symbol & 1) == 0;
        }

        /** Whether a list begins with an ellipsis; the ellipsis of a pattern must be all of it. */
        private boolean isEllipsisAhead(int list, boolean isAll) {
            return heap.kindOf(list) == PAIR
                    && store.symbolOf(heap.at(list, FIRST)) == ELLIPSIS_SYMBOL
                    && (!isAll || heap.at(list, REST) == EMPTY_CELL);
        }

        /** Whether a pattern is right; its variables come to the names that were there. */
        private boolean isRightPattern(int pattern, int level) {
            if (level > MAX_LEVEL) {
                return false;
            }
            int cell = pattern;
            for (int i = 0; i < MAX_SIZE && heap.kindOf(cell) == PAIR; i++) {
                if (!isRightPattern(heap.at(cell, FIRST), level + 1)) {
                    return false;
                }
                cell = heap.at(cell, REST);
                if (isEllipsisAhead(cell, true)) {
                    return true;
                }
            }
            int symbol = store.symbolOf(cell);
            if (!isVariable(symbol)) {
                return symbol != ELLIPSIS_SYMBOL || isLiteral(symbol);
            }
            boolean isNew = store.find(cell, names) == 0;
            names = heap.make(LINK, 0, cell, names, 0);
            return isNew;
        }

        /** The first rule that fits a form; 0 if there is none. */
        int fittingRule(int definition, int form, int scopeOfForm) {
            if (!areLiterals(heap.at(definition, FIRST))) {
                return 0;
            }
            scope = scopeOfForm;
            int rules = heap.at(definition, REST);
            for (int i = 0; i < MAX_SIZE && heap.kindOf(rules) == PAIR; i++) {
                int rule = heap.at(rules, FIRST);
                if (isMatch(heap.at(heap.at(rule, FIRST), REST), heap.at(form, REST), 0)) {
                    return rule;
                }
                rules = heap.at(rules, REST);
            }
            return 0;
        }

        private boolean isMatch(int pattern, int form, int level) {
            if (level > MAX_LEVEL) {
                return false;
            }
            int cell = pattern;
            int part = form;
            for (int i = 0; i < MAX_SIZE && heap.kindOf(cell) == PAIR; i++) {
                int item = heap.at(cell, FIRST);
                cell = heap.at(cell, REST);
                if (isEllipsisAhead(cell, true)) {
                    boolean isRight = true;
                    for (int j = 0; j < MAX_SIZE && isRight && heap.kindOf(part) == PAIR; j++) {
                        isRight = isMatch(item, heap.at(part, FIRST), level + 1);
                        part = heap.at(part, REST);
                    }
                    return isRight && heap.kindOf(part) == EMPTY;
                }
                if (heap.kindOf(part) != PAIR || !isMatch(item, heap.at(part, FIRST), level + 1)) {
                    return false;
                }
                part = heap.at(part, REST);
            }
            return isPlainMatch(cell, part);
        }

        /** Whether a pattern that is no pair matches. */
        private boolean isPlainMatch(int pattern, int part) {
            int symbol = store.symbolOf(pattern);
            if (symbol < 0) {
                return heap.areSame(pattern, part);
            }
            if (symbol == BLANK_SYMBOL || !isLiteral(symbol)) {
                return true;
            }
            return store.symbolOf(part) == symbol && store.find(part, scope) == 0;
        }

        /** What the template of a rule that fits comes to, by a new mark; 0 if it is wrong. */
        int outcomeOf(int rule, int form) {
            mark++;
            size = 0;
            bindings = 0;
            bind(heap.at(heap.at(rule, FIRST), REST), heap.at(form, REST), 0, 0);
            return build(heap.at(heap.at(rule, REST), FIRST), 0);
        }

        /** Binds the variables of a pattern; below an ellipsis all of them to its list, with the pattern of its row. */
        private void bind(int pattern, int form, int rowPattern, int level) {
            int cell = pattern;
            int part = form;
            boolean isRow = rowPattern != 0;
            for (int i = 0; i < MAX_SIZE && heap.kindOf(cell) == PAIR && level <= MAX_LEVEL; i++) {
                int item = heap.at(cell, FIRST);
                cell = heap.at(cell, REST);
                if (isEllipsisAhead(cell, true)) {
                    bind(item, part, isRow ? rowPattern : item, level + 1);
                    return;
                }
                bind(item, isRow ? form : heap.at(part, FIRST), rowPattern, level + 1);
                part = isRow ? form : heap.at(part, REST);
            }
            if (isVariable(store.symbolOf(cell))) {
                bindings = heap.make(BINDING, rowPattern, cell, bindings, part);
            }
        }

        /** Gives back the cells of bindings or rows up to others; these others. */
        private int released(int first, int outer) {
            int cell = first;
            for (int i = 0; i < MAX_CELLS && cell != outer && cell != 0; i++) {
                int next = heap.at(cell, NEXT);
                heap.release(cell);
                cell = next;
            }
            return cell;
        }

        /** What a template comes to with the variables that are bound; 0 if it is wrong. */
        private int build(int template, int level) {
            if (level > MAX_LEVEL) {
                return 0;
            }
            int parts = 0;
            int cell = template;
            for (int i = 0; i < MAX_SIZE && heap.kindOf(cell) == PAIR; i++) {
                int part = heap.at(cell, FIRST);
                cell = heap.at(cell, REST);
                if (isEllipsisAhead(cell, false)) {
                    cell = heap.at(cell, REST);
                    parts = buildRow(part, parts, level + 1);
                } else {
                    parts = added(build(part, level + 1), parts);
                }
                if (parts < 0) {
                    return 0;
                }
            }
            int whole = leaf(cell);
            for (int i = 0; i < MAX_SIZE && parts != 0 && whole != 0; i++) {
                whole = store.pairOf(heap.at(parts, ITEM), whole, MAX_MADE_DEPTH);
                parts = heap.at(parts, NEXT);
            }
            return whole;
        }

        /** The parts with one more; -1 if it is wrong or there is too much of it. */
        private int added(int part, int parts) {
            size++;
            return part == 0 || size > MAX_SIZE ? -1 : heap.make(LINK, 0, part, parts, 0);
        }

        private int leaf(int cell) {
            int made = cell;
            if (store.isName(cell)) {
                int binding = store.find(cell, bindings);
                if (heap.noteOf(binding) != 0) {
                    return 0;
                }
                made = binding != 0 ? heap.at(binding, EXTRA) : heap.makeShared(RENAMED, 0, cell, mark, 0);
            }
            size += store.measureOf(made) & SIZE_MASK;
            return size > MAX_SIZE ? 0 : made;
        }

        /** The parts with those that a template comes to for the items of its rows; -1 if that is wrong. */
        private int buildRow(int template, int before, int level) {
            rows = 0;
            areRowsEven = true;
            addRows(template, level);
            int mine = rows;
            int count = areRowsEven ? rowLength : 0;
            int outer = bindings;
            int parts = mine == 0 || !areRowsEven ? -1 : before;
            for (int i = 0; i < count && parts >= 0; i++) {
                int row = mine;
                for (int j = 0; j < MAX_SIZE && row != 0; j++) {
                    int list = heap.at(row, EXTRA);
                    bind(heap.at(row, ITEM), heap.at(list, FIRST), 0, 0);
                    heap.put(row, EXTRA, heap.at(list, REST));
                    row = heap.at(row, NEXT);
                }
                parts = added(build(template, level), parts);
                bindings = released(bindings, outer);
            }
            released(mine, 0);
            return parts;
        }

        /** Puts the rows of the variables in a template ahead of the rows that were there. */
        private void addRows(int template, int level) {
            int cell = template;
            for (int i = 0; i < MAX_SIZE && heap.kindOf(cell) == PAIR && level <= MAX_LEVEL; i++) {
                addRows(heap.at(cell, FIRST), level + 1);
                cell = heap.at(cell, REST);
            }
            int binding = store.isName(cell) ? store.find(cell, bindings) : 0;
            int pattern = heap.noteOf(binding);
            int list = heap.at(binding, EXTRA);
            int row = pattern == 0 ? 0 : rows;
            for (int i = 0; i < MAX_SIZE && row != 0; i++) {
                if (heap.at(row, ITEM) == pattern && heap.at(row, EXTRA) == list) {
                    return;
                }
                row = heap.at(row, NEXT);
            }
            if (pattern != 0) {
                int length = store.lengthOf(list);
                areRowsEven = areRowsEven && (rows == 0 || rowLength == length);
                rowLength = length;
                rows = heap.make(BINDING, 0, pattern, rows, list);
            }
        }
    }

    /** Makes code of programs. The forms that are around the one at hand are a stack, one level for each. */
    private static final class Expander {
        private static final int LEVELS = 104;
        private static final int WHOLE = 0;
        private static final int OPENED = -1; // in place of a slot, as long as its parts are still to be expanded

        private final Heap heap;
        private final Store store;
        private final Values values;
        private final Macros macros;
        // For each level: the forms that are still to be expanded, the names that are bound there, what came out of a
        // macro in place of the form at hand; what the forms belong to: the tag of a slot or the kind of a cell, a field
        // of that cell, and where their slots begin.
        private final Row lists;
        private final Row scopes;
        private final Row outcomes;
        private final Row kinds;
        private final Row infos;
        private final Row starts;
        private int level;
        private final Row slots;
        private int anew; // pairs of a datum that were made anew
        private int anewCount;
        int used;
        char letter; // what was wrong

        Expander(Heap heap, Store store, Values values) {
            this.heap = heap;
            this.store = store;
            this.values = values;
            macros = new Macros(heap, store);
            lists = heap.newRoots(LEVELS, LEVELS);
            scopes = heap.newRoots(LEVELS, LEVELS);
            outcomes = heap.newRoots(LEVELS, LEVELS);
            kinds = new Row(LEVELS, LEVELS);
            infos = new Row(LEVELS, LEVELS);
            starts = new Row(LEVELS, LEVELS);
            slots = heap.newSlotRoots(16, MAX_ROW);
        }

        /** The slot of a program; 0 if it is wrong. Then used tells how many expansions of macros there were. */
        int expand(int program) {
            used = 0;
            letter = 'x';
            level = -1;
            slots.used = 0;
            openLevel(WHOLE, 0, EMPTY_CELL, 0);
            outcomes.put(0, program);
            boolean isRight = true;
            for (int i = 0; i < MAX_STEPS && isRight && level >= 0; i++) {
                int form = nextForm();
                outcomes.put(level, form);
                isRight = makeRoom(STEP + 4 * (store.measureOf(form) & SIZE_MASK));
                outcomes.put(level, 0);
                int symbol = keywordOrMacro(form);
                if (isRight && form == 0) {
                    closeLevel();
                } else if (isRight && store.meaningOf(symbol) == MACRO) {
                    int rule = macros.fittingRule(store.rulesOf(symbol), form, scopes.get(level));
                    outcomes.put(level, form);
                    isRight = rule != 0 && used < MAX_EXPANSIONS && makeRoom(SLACK + 2 * cellsFor(rule));
                    used += isRight ? 1 : 0;
                    outcomes.put(level, isRight ? macros.outcomeOf(rule, form) : 0);
                    isRight = outcomes.get(level) != 0;
                } else if (isRight) {
                    int slot = symbol >= 0 ? keywordForm(symbol, form) : plainForm(form);
                    isRight = slot != 0;
                    if (slot > 0) {
                        slots.add(slot);
                    }
                }
            }
            lists.fillWithZeros();
            scopes.fillWithZeros();
            outcomes.fillWithZeros();
            // The code of the program stays until another one is expanded.
            slots.used = isRight ? 1 : 0;
            return isRight ? slots.get(0) : 0;
        }

        /** As many cells as the variables of a rule are bound in at once: again below each ellipsis around. */
        private int cellsFor(int rule) {
            int measure = store.measureOf(rule);
            return (measure & SIZE_MASK) * (measure >> DEPTH_SHIFT & DEPTH_MASK);
        }

        private boolean makeRoom(int cells) {
            if (heap.freeCells < cells && !heap.makeRoom(cells, RESERVE / 2)) {
                letter = 'o';
            }
            return letter == 'x';
        }

        private void openLevel(int kind, int info, int forms, int scope) {
            level++;
            lists.put(level, forms);
            scopes.put(level, scope);
            outcomes.put(level, 0);
            kinds.put(level, kind);
            infos.put(level, info);
            starts.put(level, slots.used);
        }

        /** Puts the slot of a form in place of those of its parts, which have all been expanded. */
        private void closeLevel() {
            int kind = kinds.get(level);
            int first = starts.get(level);
            if (level > 0) {
                int slot;
                if (kind == CALL || kind == BRANCH || kind == SEQUENCE) {
                    slot = kind | partsFrom(first) << SLOT_SHIFT;
                } else {
                    int inner = kind == LAMBDA ? partsFrom(first) : slots.get(first);
                    slot = OTHER | heap.makeShared(kind, 0, infos.get(level), inner, 0) << SLOT_SHIFT;
                }
                slots.used = first;
                slots.add(slot);
            }
            lists.put(level, 0);
            scopes.put(level, 0);
            level--;
        }

        /** The slots from one on, in cells of three. */
        private int partsFrom(int first) {
            int parts = 0;
            for (int i = (slots.used - first + 2) / 3 * 3 - 3; i >= 0; i -= 3) {
                int at = first + i;
                int other = at + 1 < slots.used ? slots.get(at + 1) : 0;
                int third = at + 2 < slots.used ? slots.get(at + 2) : 0;
                parts = heap.makeShared(PARTS, parts, slots.get(at), other, third);
            }
            return parts;
        }

        /** The next form of the level; 0 if there is none. */
        private int nextForm() {
            int outcome = outcomes.get(level);
            if (outcome != 0) {
                outcomes.put(level, 0);
                return outcome;
            }
            int list = lists.get(level);
            if (heap.kindOf(list) != PAIR) {
                return 0;
            }
            lists.put(level, heap.at(list, REST));
            return heap.at(list, FIRST);
        }

        /** The symbol of the first part of a list, if it is a global name and a keyword or a macro; otherwise -1. */
        private int keywordOrMacro(int form) {
            if (heap.kindOf(form) != PAIR || store.lengthOf(form) < 0) {
                return -1;
            }
            int head = heap.at(form, FIRST);
            int symbol = store.find(head, scopes.get(level)) == 0 ? store.symbolOf(head) : -1;
            int meaning = store.meaningOf(symbol);
            return meaning == KEYWORD || meaning == MACRO ? symbol : -1;
        }

        /** The slot of a form without a keyword; 0 if it is wrong. */
        private int plainForm(int form) {
            int formKind = heap.kindOf(form);
            if (formKind == NUMBER || formKind == TRUTH) {
                return CONSTANT | form << SLOT_SHIFT;
            }
            if (formKind == PAIR && store.lengthOf(form) > 0) {
                return around(CALL, 0, form, scopes.get(level));
            }
            return store.isName(form) ? variable(form) : 0;
        }

        // A scope notes the place of its name among the parameters, and whether it is the last one of its lambda, so that
        // the next one belongs to a lambda further out.
        private int variable(int name) {
            int scope = scopes.get(level);
            int bound = store.find(name, scope);
            if (bound != 0) {
                int depth = 0;
                for (int i = 0; i < MAX_CELLS && scope != bound; i++) {
                    depth += heap.noteOf(scope) & 1;
                    scope = heap.at(scope, NEXT);
                }
                return LOCAL | heap.noteOf(bound) >> 1 << SLOT_SHIFT | depth << DEPTH_OUT_SHIFT;
            }
            int symbol = store.symbolOf(name);
            int meaning = store.meaningOf(symbol);
            return meaning == KEYWORD || meaning == MACRO ? 0 : GLOBAL | symbol << SLOT_SHIFT;
        }

        /** Begins with the forms in another one; 0 if they would be within too many others. */
        private int around(int kind, int info, int forms, int scope) {
            if (level >= MAX_FORMS_AROUND) {
                return 0;
            }
            openLevel(kind, info, forms, scope);
            return OPENED;
        }

        private int keywordForm(int keyword, int form) {
            int count = store.lengthOf(form) - 1;
            int parts = heap.at(form, REST);
            int scope = scopes.get(level);
            int first = heap.at(parts, FIRST);
            int behind = heap.at(parts, REST);
            boolean isWhole = level == 0;
            switch (keyword) {
                case QUOTE_SYMBOL:
                    return count == 1 ? QUOTATION | withoutMarks(first) << SLOT_SHIFT : 0;
                case IF_SYMBOL:
                    return count == 2 || count == 3 ? around(BRANCH, 0, parts, scope) : 0;
                case LAMBDA_SYMBOL:
                    return count >= 2 ? lambdaForm(first, behind) : 0;
                case DEFINE_SYMBOL:
                    return count == 2 && isWhole && store.isName(first)
                            ? around(DEFINITION, store.symbolOf(first), behind, scope)
                            : 0;
                case SET_SYMBOL:
                    return count == 2 && store.isName(first) ? setForm(variable(first), behind) : 0;
                case BEGIN_SYMBOL:
                    return count >= 1 ? around(SEQUENCE, 0, parts, scope) : 0;
                default:
                    return count >= 2 && isWhole && store.isName(first) && macros.areRules(behind)
                            ? OTHER | heap.makeShared(SYNTAX, 0, store.symbolOf(first), behind, 0) << SLOT_SHIFT
                            : 0;
            }
        }

        private int setForm(int variable, int forms) {
            if (variable == 0) {
                return 0;
            }
            boolean isLocal = (variable & TAG_MASK) == LOCAL;
            return isLocal
                    ? around(SET_LOCAL, variable, forms, scopes.get(level))
                    : around(SET_GLOBAL, variable >>> SLOT_SHIFT, forms, scopes.get(level));
        }

        private int lambdaForm(int parameters, int body) {
            int names = 0;
            int count = 0;
            int cell = parameters;
            for (int i = 0; i < MAX_SIZE && heap.kindOf(cell) == PAIR; i++) {
                int name = heap.at(cell, FIRST);
                if (!store.isName(name) || store.find(name, names) != 0) {
                    return 0;
                }
                names = heap.make(LINK, 0, name, names, 0);
                count++;
                cell = heap.at(cell, REST);
            }
            boolean hasRest = store.isName(cell);
            if (hasRest ? store.find(cell, names) != 0 : heap.kindOf(cell) != EMPTY) {
                return 0;
            }
            int outer = scopes.get(level);
            int scope = hasRest ? heap.make(SCOPE, count << 1 | 1, cell, outer, 0) : outer;
            for (int i = count - 1; i >= 0; i--) {
                scope = heap.make(SCOPE, i << 1 | (scope == outer ? 1 : 0), heap.at(names, ITEM), scope, 0);
                names = heap.at(names, NEXT);
            }
            return around(LAMBDA, count << 1 | (hasRest ? 1 : 0), body, scope);
        }

        /** A quoted datum with all marks taken off; each pair with a mark in it is made anew once. */
        private int withoutMarks(int datum) {
            anew = 0;
            anewCount = 0;
            int plain = plainOf(datum, 0);
            for (int i = 0; i < MAX_SIZE && anew != 0; i++) {
                heap.setNote(heap.at(anew, ITEM), 0);
                anew = heap.at(anew, NEXT);
            }
            return heap.kindOf(plain) == COPIED ? values.madeAnew(plain) : plain;
        }

        // A pair that has been made anew bears, until the form is done, a note of the new one. By its number each of them
        // differs from the others of its datum, while like data of other forms are made of the same cells.
        private int plainOf(int datum, int depth) {
            int pairs = 0;
            int cell = datum;
            for (int i = 0; i < MAX_SIZE && isToBeMadeAnew(cell); i++) {
                pairs = heap.make(LINK, 0, cell, pairs, 0);
                cell = heap.at(cell, REST);
            }
            int plain = heap.kindOf(cell) == RENAMED ? FIRST_SYMBOL_CELL + store.symbolOf(cell) : cell;
            if (heap.kindOf(cell) == PAIR && heap.noteOf(cell) != 0) {
                plain = heap.noteOf(cell);
            }
            for (int i = 0; i < MAX_SIZE && pairs != 0 && depth <= MAX_LEVEL; i++) {
                int old = heap.at(pairs, ITEM);
                int first = plainOf(heap.at(old, FIRST), depth + 1);
                plain = heap.makeShared(COPIED, anewCount, first, plain, 0);
                anewCount++;
                heap.setNote(old, plain);
                anew = heap.make(LINK, 0, old, anew, 0);
                pairs = heap.at(pairs, NEXT);
            }
            return plain;
        }

        private boolean isToBeMadeAnew(int cell) {
            return heap.kindOf(cell) == PAIR
                    && (heap.at(cell, MEASURE) & RENAMED_INSIDE) != 0
                    && heap.noteOf(cell) == 0;
        }
    }

    /** What has happened in all runs. */
    private static final class Counts {
        long applications;
        long applicationsOfRun;
        long applicationsOfEnded;
        int expansions;
        int entered;
        int left;
        int jumps;
        int ended;
        int endedWithValue;
        int abandoned; // winds that were entered when a run ended with an error or another one was begun
    }

    /**
     * Rows of values, variables, lists, and the primitives that come to a value at once.
     *
     * <p>A few values in a row are held as they are. More of them, or more than one closure, are packed, since a run can
     * hold hundreds ahead of each application: as runs of values that are like others of the row, or like those of an
     * earlier row from the same place, its base; just the others are held. Closures are made anew in each row: such a one
     * is like one of the base if it has the same code, the environment of a closure that is held, a sample, and was made
     * as long after the sample as that of the base after a sample of the base.
     *
     * <p>A VIEW is a list that looks like a row of values from a place on, like another list, or like a datum whose pairs
     * are made anew; but it is a list of its own by its stamp. So nothing is copied.
     */
    private static final class Values {
        private static final int MOST_PLAIN = 8;
        private static final int MOST_WITH_BASE = 2048;
        private static final int MAX_CHAIN = 128;
        private static final int MIN_CHAIN = 8;
        private static final int MAX_TOKENS = 4096;
        private static final int WINDOW = 16;
        private static final int LASTS = 4096;
        private static final int LASTS_SHIFT = 20;
        private static final int MOST_TRIES = 65536;
        private static final int STAMPS = 65536;
        private static final int KINDS = 4;
        private static final int DRAFTS = 4;
        private static final int SAMPLES = 3;
        private static final int IS_SET = 1;
        private static final int NO_LENGTH = -1;
        private static final int UNKNOWN_LENGTH = -2;
        private static final int MOST_MISSES = 2;
        // What a run is: values of its own, those of the row some places back, those of the base some places on, with
        // closures made anew or as they are; a closure of its own that is a sample, closures made one behind the other,
        // of which the lambdas are its own. The offset of these tells how long after which sample the first one was made.
        // The samples come ahead of all else of its own.
        private static final int LITERAL = 0;
        private static final int SELF = 1;
        private static final int COPY = 2;
        private static final int RAW = 3;
        private static final int SAMPLE = 4;
        private static final int MADE = 5;
        private static final int MOST_SAMPLES = 7;
        private static final int MODE_MASK = 7;
        private static final int MODE_SHIFT = 3;

        private final Heap heap;
        private int stamps;
        int largest; // of the rows that were packed, as far as they can be bases
        // The row that is packed, and what its base comes to.
        private Row from;
        private int start;
        private int count;
        private Row known;
        private final Row knownSamples;
        private final Row[] knowns; // what some packed rows come to: the last ones of each kind of place, and one looked for
        private final Row knownOf; // and behind the last one as of which collection
        private final Row tokens; // mode, length and offset of each run
        private final Row literals; // what the row holds of its own, behind the places of samples
        private final Row samples;
        private final Row lasts; // the packed rows that can be bases, by their place: the last one and the one before
        private final Row lastKeys;
        private final Row chain; // a row, its base, the base of that, ..
        private final Row[] drafts; // what two of them come to: values, environments and stamps of closures, and samples
        private final Row variables;
        private int missed; // the row in which a variable was looked for last, and how often
        private int misses;

        Values(Heap heap) {
            this.heap = heap;
            knowns = new Row[KINDS + 1];
            for (int i = 0; i < knowns.length; i++) {
                knowns[i] = new Row(16, MOST_WITH_BASE);
            }
            knownOf = new Row(KINDS + 2, KINDS + 2);
            tokens = new Row(16, 4 * MAX_TOKENS);
            literals = new Row(16, MAX_ROW);
            lasts = heap.newWeakRow(2 * LASTS);
            lastKeys = new Row(16, LASTS);
            chain = new Row(16, 4 * MAX_CHAIN);
            samples = new Row(MOST_SAMPLES, MOST_SAMPLES);
            knownSamples = new Row(MOST_SAMPLES, MOST_SAMPLES);
            drafts = new Row[2 * DRAFTS];
            for (int i = 0; i < drafts.length; i++) {
                drafts[i] = new Row(16, MOST_WITH_BASE);
            }
            variables = new Row(16, MAX_SIZE);
        }

        int nextStamp() {
            stamps++;
            return stamps;
        }

        // ---- rows of values

        /** A row of some values of another one; 0 if there are none. The key tells where it comes from, and its kind. */
        int pack(Row row, int first, int length, int key) {
            // Closures are the only values that come together without an application for each.
            if (lookAt(row, first, length) < 2 && length <= MOST_PLAIN) {
                return plain(row, first, length);
            }
            largest = Math.max(largest, Math.min(length, MOST_WITH_BASE));
            int kind = key & KINDS - 1;
            int place = key * 0x9E3779B1 >>> LASTS_SHIFT;
            boolean hasLast = length <= MOST_WITH_BASE && lastKeys.get(place) == key;
            int base = hasLast ? lasts.get(2 * place) : 0;
            int other = hasLast ? lasts.get(2 * place + 1) : 0;
            int bases = countBases(base);
            if (bases >= MIN_CHAIN && (bases & bases - 1) == 0) {
                // A row without a base ends the chain, if it does not hold too much.
                learn(0, kind);
                findRuns();
                base = countOfOwn() <= bases || bases >= MAX_CHAIN ? 0 : base;
            }
            learn(base, kind);
            findRuns();
            int most = countOfOwn();
            if (base != 0 && other != 0 && most > length / 4 && countBases(other) < MAX_CHAIN) {
                // Rows may be like every other one from the same place.
                learn(other, kind);
                findRuns();
                if (countOfOwn() < most) {
                    base = other;
                } else {
                    learn(base, kind);
                    findRuns();
                }
            }
            int packed = made(base);
            if (length <= MOST_WITH_BASE) {
                lasts.put(2 * place + 1, hasLast ? lasts.get(2 * place) : 0);
                lasts.put(2 * place, packed);
                lastKeys.put(place, key);
                knownOf.put(kind, packed);
                known.used = 0;
                for (int i = first; i < first + length; i++) {
                    known.add(row.get(i));
                }
            }
            return packed;
        }

        /** Looks at the values that are to be packed; how many closures there are. */
        private int lookAt(Row row, int first, int length) {
            from = row;
            start = first;
            count = length;
            int closures = 0;
            for (int i = first; i < first + length; i++) {
                closures += heap.kindOf(row.get(i)) == CLOSURE ? 1 : 0;
            }
            return closures;
        }

        /** Makes the row of the runs that have been found. */
        private int made(int base) {
            int runs = 0;
            for (int i = tokens.used - 3; i >= 0; i -= 3) {
                runs = heap.makeShared(RUN, tokens.get(i + 1) << MODE_SHIFT | tokens.get(i), tokens.get(i + 2), runs, 0);
            }
            int first = MOST_SAMPLES - samples.used;
            for (int i = 0; i < samples.used; i++) {
                literals.put(first + i, samples.get(i));
            }
            int own = plain(literals, first, literals.used - first);
            return heap.make(PACKED, count << MODE_SHIFT | samples.used, base, runs, own);
        }

        /** A row that is held plainly: one value is its own row. */
        private int plain(Row row, int first, int length) {
            if (length == 1) {
                return row.get(first);
            }
            int items = 0;
            for (int i = (length + 2) / 3 * 3 - 3; i >= 0; i -= 3) {
                int other = i + 1 < length ? row.get(first + i + 1) : 0;
                int third = i + 2 < length ? row.get(first + i + 2) : 0;
                items = heap.make(ITEMS, items, row.get(first + i), other, third);
            }
            return items;
        }

        /** Lets the chain be a row, its base, and so on, up to one without a base; how many they are. */
        private int countBases(int packed) {
            int row = packed;
            chain.used = 0;
            for (int i = 0; i < 2 * MAX_CHAIN && row != 0; i++) {
                chain.put(i, row);
                chain.used = i + 1;
                row = heap.at(row, ITEM);
            }
            return chain.used;
        }

        private int countOfOwn() {
            return literals.used - MOST_SAMPLES + samples.used;
        }

        /** Looks at the values of a base. */
        private void learn(int base, int kind) {
            known = knowns[kind];
            knownSamples.used = heap.noteOf(base) & MOST_SAMPLES;
            for (int i = 0; i < knownSamples.used; i++) {
                knownSamples.put(i, plainValue(heap.at(base, EXTRA), i));
            }
            if (base == 0 || base != knownOf.get(kind) || knownOf.get(KINDS + 1) != heap.collections) {
                forget();
                knownOf.put(kind, base);
                known.used = base == 0 ? 0 : countOf(base);
                unpack(base, known.used, known);
            }
        }

        /** Forgets what rows come to, if a collection came in between. */
        private void forget() {
            if (knownOf.get(KINDS + 1) != heap.collections) {
                knownOf.fillWithZeros();
                knownOf.put(KINDS + 1, heap.collections);
            }
        }

        private void addToken(int mode, int length, int offset) {
            int at = tokens.used;
            tokens.put(at, mode);
            tokens.put(at + 1, length);
            tokens.put(at + 2, offset);
            tokens.used = at + 3;
        }

        private void findRuns() {
            tokens.used = 0;
            literals.used = MOST_SAMPLES;
            samples.used = 0;
            int shift = 0;
            int triesLeft = MOST_TRIES;
            int length;
            for (int i = 0; i < count; i += Math.max(1, length)) {
                int mode = SELF;
                int offset = 1;
                length = i == 0 ? 0 : ownLength(i, 1);
                for (int back = 2; back <= WINDOW && back <= i && length == 0; back++) {
                    length = ownLength(i, back);
                    offset = back;
                }
                // What was a few places away is looked for around where the last run was.
                int tries = length > 0 || triesLeft < 0 ? 1 : 2 * known.used + 1;
                for (int j = 0; j < tries && known.used > 0; j++) {
                    triesLeft--;
                    int near = (j & 1) == 0 ? shift + j / 2 : shift - (j + 1) / 2;
                    int copied = knownLength(i, near, Math.min(samples.used, knownSamples.used));
                    int raw = copied > 0 || samples.used == 0 ? 0 : knownLength(i, near, 0);
                    if (copied + raw > length) {
                        mode = copied > 0 ? COPY : RAW;
                        length = copied + raw;
                        offset = near;
                    }
                    if (copied + raw > 0) {
                        shift = near;
                        break;
                    }
                }
                if (length > 0 && tokens.used < 3 * MAX_TOKENS) {
                    addToken(mode, length, offset);
                } else {
                    length = 1;
                    addOwn(from.get(start + i));
                }
            }
        }

        private void addOwn(int value) {
            boolean isClosure = heap.kindOf(value) == CLOSURE && tokens.used < 3 * MAX_TOKENS;
            int sample = isClosure ? likeSample(samples, samples.used, value) : -1;
            if (isClosure && sample < 0 && samples.used < MOST_SAMPLES) {
                samples.put(samples.used, value);
                samples.used++;
                addToken(SAMPLE, 1, 0);
                return;
            }
            boolean isMade = sample >= 0;
            int later = heap.at(value, STAMP) - heap.at(samples.get(sample), STAMP);
            int mode = isMade ? MADE : LITERAL;
            int offset = isMade ? later << MODE_SHIFT | sample : 0;
            int last = tokens.used - 3;
            int length = tokens.get(last + 1);
            boolean goesOn = last >= 0 && tokens.get(last) == mode;
            if (goesOn && (!isMade || tokens.get(last + 2) + (length << MODE_SHIFT) == offset)) {
                tokens.put(last + 1, length + 1);
            } else {
                addToken(mode, 1, offset);
            }
            literals.add(isMade ? heap.at(value, CODE) : value);
        }

        /** Which one of some samples has the environment of a closure that was made after it; -1 if there is none. */
        private int likeSample(Row someSamples, int most, int closure) {
            for (int i = 0; i < most; i++) {
                int sample = someSamples.get(i);
                int later = heap.at(closure, STAMP) - heap.at(sample, STAMP);
                if (heap.at(closure, AROUND) == heap.at(sample, AROUND) && later >= 0 && later < STAMPS) {
                    return i;
                }
            }
            return -1;
        }

        /** How many values from a place on are like those some places back. */
        private int ownLength(int place, int back) {
            int length = 0;
            for (int i = start + place; i < start + count && heap.areSame(from.get(i), from.get(i - back)); i++) {
                length++;
            }
            return length;
        }

        /** How many values from a place on are like those of the base some places on, with some samples. */
        private int knownLength(int place, int shift, int most) {
            int length = 0;
            for (int i = place; i < count && i + shift >= 0 && i + shift < known.used; i++) {
                int value = from.get(start + i);
                int old = known.get(i + shift);
                int sample = most > 0 && heap.kindOf(old) == CLOSURE ? likeSample(knownSamples, most, old) : -1;
                boolean isLike = heap.areSame(value, old);
                if (sample >= 0) {
                    int now = samples.get(sample);
                    int later = heap.at(old, STAMP) - heap.at(knownSamples.get(sample), STAMP);
                    isLike = heap.kindOf(value) == CLOSURE
                            && heap.at(value, CODE) == heap.at(old, CODE)
                            && heap.at(value, AROUND) == heap.at(now, AROUND)
                            && heap.at(value, STAMP) == heap.at(now, STAMP) + later;
                }
                if (!isLike) {
                    return length;
                }
                length++;
            }
            return length;
        }

        int countOf(int row) {
            if (heap.kindOf(row) == PACKED) {
                return heap.noteOf(row) >> MODE_SHIFT;
            }
            if (heap.kindOf(row) != ITEMS) {
                return row == 0 ? 0 : 1;
            }
            int items = row;
            int before = 0;
            for (int i = 0; i < MAX_ROW && heap.noteOf(items) != 0; i++) {
                items = heap.noteOf(items);
                before += 3;
            }
            return before + (heap.at(items, 3) != 0 ? 3 : heap.at(items, 2) != 0 ? 2 : heap.at(items, 1) != 0 ? 1 : 0);
        }

        /** A value of a row that is held plainly. */
        private int plainValue(int row, int index) {
            if (heap.kindOf(row) != ITEMS) {
                return index == 0 ? row : 0;
            }
            int items = row;
            for (int i = 0; i < index / 3; i++) {
                items = heap.noteOf(items);
            }
            return heap.at(items, index % 3 + 1);
        }

        /** What a packed row comes to, if that is known; otherwise null. */
        private Row knownValues(int row) {
            for (int i = 0; i < knowns.length && knownOf.get(KINDS + 1) == heap.collections; i++) {
                if (knownOf.get(i) == row) {
                    return knowns[i];
                }
            }
            return null;
        }

        /** A value of a packed row, which is found through its bases. */
        private int packedValue(int row, int index) {
            int at = row;
            int place = index;
            int sample = 0;
            int later = 0;
            chain.used = 0;
            for (int step = 0; step < MAX_ROW && heap.kindOf(at) == PACKED; step++) {
                int run = heap.at(at, NEXT);
                int own = heap.noteOf(at) & MOST_SAMPLES;
                int samplesAhead = 0;
                int begin = 0;
                for (int i = 0; i < MAX_ROW && run != 0 && place >= begin + (heap.noteOf(run) >> MODE_SHIFT); i++) {
                    int length = heap.noteOf(run) >> MODE_SHIFT;
                    int mode = heap.noteOf(run) & MODE_MASK;
                    begin += length;
                    own += mode % MADE == LITERAL ? length : 0;
                    samplesAhead += mode == SAMPLE ? 1 : 0;
                    run = heap.at(run, NEXT);
                }
                int offset = heap.at(run, ITEM);
                switch (heap.noteOf(run) & MODE_MASK) {
                    case SAMPLE:
                        at = heap.at(at, EXTRA);
                        place = samplesAhead;
                        break;
                    case MADE:
                        sample = plainValue(heap.at(at, EXTRA), offset & MODE_MASK);
                        later = (offset >> MODE_SHIFT) + place - begin;
                        at = heap.at(at, EXTRA);
                        place += own - begin;
                        break;
                    case LITERAL:
                        at = heap.at(at, EXTRA);
                        place += own - begin;
                        break;
                    case SELF:
                        place = offset > 0 ? begin - offset + (place - begin) % offset : 0;
                        break;
                    default:
                        chain.add(at);
                        chain.add((heap.noteOf(run) & MODE_MASK) == COPY ? samplesAhead : 0);
                        at = heap.at(at, ITEM);
                        place += offset;
                }
            }
            int value = plainValue(at, place);
            if (heap.kindOf(value) == LAMBDA) {
                return renewed(value, heap.at(sample, AROUND), heap.at(sample, STAMP) + later);
            }
            boolean isClosure = heap.kindOf(value) == CLOSURE && chain.used > 0;
            return isClosure ? renewed(heap.at(value, CODE), heap.at(value, AROUND), heap.at(value, STAMP)) : value;
        }

        /** A closure as it is in the first row of the chain, from how it is in the base of the last one. */
        private int renewed(int lambda, int aroundThen, int stampThen) {
            int around = aroundThen;
            int stamp = stampThen;
            for (int i = chain.used - 2; i >= 0; i -= 2) {
                int own = heap.at(chain.get(i), EXTRA);
                int base = heap.at(chain.get(i), ITEM);
                int most = Math.min(chain.get(i + 1), heap.noteOf(base) & MOST_SAMPLES);
                for (int j = 0; j < most; j++) {
                    int old = plainValue(heap.at(base, EXTRA), j);
                    int later = stamp - heap.at(old, STAMP);
                    if (around == heap.at(old, AROUND) && later >= 0 && later < STAMPS) {
                        around = heap.at(plainValue(own, j), AROUND);
                        stamp = heap.at(plainValue(own, j), STAMP) + later;
                        break;
                    }
                }
            }
            return heap.make(CLOSURE, 0, lambda, around, stamp);
        }

        /** Lets the values of a row be those of another one from its begin on. */
        void unpack(int row, int length, Row into) {
            if (heap.kindOf(row) != PACKED) {
                unpackPlain(row, length, into);
                return;
            }
            int bases = countBases(row);
            for (int i = bases - 1; i >= 0; i--) {
                int drafted = i % 2 * DRAFTS;
                Row values = bases == 1 ? into : drafts[drafted];
                int items = heap.at(chain.get(i), EXTRA);
                int own = unpackSamples(chain.get(i), drafts[drafted + SAMPLES]);
                items = own < 3 ? items : own < 6 ? heap.noteOf(items) : heap.noteOf(heap.noteOf(items));
                int samplesAhead = 0;
                int place = 0;
                int run = heap.at(chain.get(i), NEXT);
                for (int j = 0; j < MAX_ROW && run != 0; j++) {
                    int runLength = heap.noteOf(run) >> MODE_SHIFT;
                    int mode = heap.noteOf(run) & MODE_MASK;
                    if (mode % MADE == LITERAL) {
                        items = unpackOwn(run, items, own, place, values, drafted);
                        own += runLength;
                    } else {
                        unpackLike(run, place, samplesAhead, values, drafted);
                        samplesAhead += mode == SAMPLE ? 1 : 0;
                    }
                    place += runLength;
                    run = heap.at(run, NEXT);
                }
            }
            if (bases > 1) {
                makeClosures(length, into);
            }
        }

        private void unpackPlain(int row, int length, Row into) {
            int items = row;
            boolean isAlone = heap.kindOf(row) != ITEMS;
            for (int i = 0; i < length; i++) {
                into.put(i, isAlone ? row : heap.at(items, i % 3 + 1));
                items = i % 3 < 2 ? items : heap.noteOf(items);
            }
        }

        /** Lets a row be the samples of a packed row; how many they are. */
        private int unpackSamples(int packed, Row into) {
            int items = heap.at(packed, EXTRA);
            boolean isAlone = heap.kindOf(items) != ITEMS;
            into.used = heap.noteOf(packed) & MOST_SAMPLES;
            for (int i = 0; i < into.used; i++) {
                into.put(i, isAlone ? items : heap.at(items, i % 3 + 1));
                items = i % 3 < 2 ? items : heap.noteOf(items);
            }
            return into.used;
        }

        /** Drafts the values of a run that the row holds, from a place in its items on; the items behind them. */
        private int unpackOwn(int run, int items, int own, int place, Row values, int drafted) {
            boolean isMade = (heap.noteOf(run) & MODE_MASK) == MADE;
            int length = heap.noteOf(run) >> MODE_SHIFT;
            int offset = heap.at(run, ITEM);
            int sample = drafts[drafted + SAMPLES].get(offset & MODE_MASK);
            boolean isAlone = heap.kindOf(items) != ITEMS;
            int cell = items;
            for (int i = 0; i < length; i++) {
                int value = isAlone ? cell : heap.at(cell, (own + i) % 3 + 1);
                int around = heap.at(isMade ? sample : value, AROUND);
                int stamp = isMade ? heap.at(sample, STAMP) + (offset >> MODE_SHIFT) + i : heap.at(value, STAMP);
                boolean isDue = isMade && values != drafts[drafted];
                values.put(place + i, isDue ? heap.make(CLOSURE, 0, value, around, stamp) : value);
                drafts[drafted + 1].put(place + i, around);
                drafts[drafted + 2].put(place + i, stamp);
                cell = isAlone || (own + i) % 3 < 2 ? cell : heap.noteOf(cell);
            }
            return cell;
        }

        /** Drafts the values of a run that are like others, or a sample. */
        private void unpackLike(int run, int place, int samplesAhead, Row values, int drafted) {
            int mode = heap.noteOf(run) & MODE_MASK;
            int length = heap.noteOf(run) >> MODE_SHIFT;
            int other = mode == SELF ? drafted : DRAFTS - drafted;
            int offset = mode == SELF ? -heap.at(run, ITEM) : heap.at(run, ITEM);
            Row others = mode == SELF ? values : drafts[other];
            Row now = drafts[drafted + SAMPLES];
            Row then = drafts[other + SAMPLES];
            int most = mode == COPY ? Math.min(samplesAhead, then.used) : 0;
            for (int i = place; i < place + length; i++) {
                int value = mode == SAMPLE ? now.get(samplesAhead) : others.get(i + offset);
                int around = mode == SAMPLE ? heap.at(value, AROUND) : drafts[other + 1].get(i + offset);
                int stamp = mode == SAMPLE ? heap.at(value, STAMP) : drafts[other + 2].get(i + offset);
                for (int j = 0; j < most; j++) {
                    int later = stamp - heap.at(then.get(j), STAMP);
                    if (around == heap.at(then.get(j), AROUND) && later >= 0 && later < STAMPS) {
                        around = heap.at(now.get(j), AROUND);
                        stamp = heap.at(now.get(j), STAMP) + later;
                        break;
                    }
                }
                values.put(i, value);
                drafts[drafted + 1].put(i, around);
                drafts[drafted + 2].put(i, stamp);
            }
        }

        /** Lets the values of a row be the drafted ones, with closures as they are there. */
        private void makeClosures(int length, Row into) {
            for (int i = 0; i < length; i++) {
                int value = drafts[0].get(i);
                int around = drafts[1].get(i);
                int stamp = drafts[2].get(i);
                int valueKind = heap.kindOf(value);
                boolean isAsItWas = heap.at(value, AROUND) == around && heap.at(value, STAMP) == stamp;
                if (valueKind == LAMBDA || valueKind == CLOSURE && !isAsItWas) {
                    int lambda = valueKind == LAMBDA ? value : heap.at(value, CODE);
                    value = heap.make(CLOSURE, 0, lambda, around, stamp);
                }
                into.put(i, value);
            }
        }

        // ---- variables

        private int outer(int environment, int slot) {
            int around = environment;
            for (int i = slot >>> DEPTH_OUT_SHIFT; i > 0; i--) {
                around = heap.at(around, NEXT);
            }
            return around;
        }

        private static int placeOf(int slot) {
            return slot >> SLOT_SHIFT & PLACE_MASK;
        }

        int variable(int environment, int slot) {
            int around = outer(environment, slot);
            int row = heap.at(around, ITEM);
            if (heap.kindOf(around) == ONE_ENVIRONMENT) {
                return row;
            }
            if (heap.kindOf(row) != PACKED) {
                return plainValue(row, placeOf(slot));
            }
            Row values = knownValues(row);
            if (values != null) {
                return values.get(placeOf(slot));
            }
            // A row in which many variables are looked for is unpacked once for all of them.
            misses = row == missed ? misses + 1 : 0;
            missed = row;
            if (misses > MOST_MISSES && countOf(row) <= MOST_WITH_BASE) {
                forget();
                knownOf.put(KINDS, row);
                unpack(row, countOf(row), knowns[KINDS]);
            }
            return packedValue(row, placeOf(slot));
        }

        /** Sets a variable: then its row is held plainly. */
        void setVariable(int environment, int slot, int value) {
            int around = outer(environment, slot);
            if (heap.kindOf(around) == ONE_ENVIRONMENT) {
                heap.put(around, ITEM, value);
                return;
            }
            int row = heap.at(around, ITEM);
            if (heap.kindOf(row) == PACKED) {
                int length = countOf(row);
                unpack(row, length, variables);
                row = plain(variables, 0, length);
                heap.put(around, ITEM, row);
            }
            heap.setNote(around, IS_SET);
            int place = placeOf(slot);
            for (int i = 0; i < place / 3; i++) {
                row = heap.noteOf(row);
            }
            heap.put(row, place % 3 + 1, value);
        }

        /** Packs the rows of the variables around that were set, so that environments that wait stay small. */
        void packVariables(int environment, int reserve) {
            int around = environment;
            for (int i = 0; i < MAX_LEVEL && around != 0; i++) {
                if (heap.noteOf(around) == IS_SET && heap.freeCells > STEP / 2 + 8 * largest + reserve) {
                    int row = heap.at(around, ITEM);
                    int length = countOf(row);
                    unpack(row, length, variables);
                    heap.put(around, ITEM, pack(variables, 0, length, heap.at(around, EXTRA) << 2 | 3));
                    heap.setNote(around, 0);
                }
                around = heap.at(around, NEXT);
            }
        }

        // ---- lists

        boolean isPair(int cell) {
            int cellKind = heap.kindOf(cell);
            return cellKind == PAIR || cellKind == VIEW;
        }

        int firstOf(int pair) {
            int base = heap.at(pair, ITEM);
            if (heap.kindOf(pair) == PAIR) {
                return base;
            }
            int place = heap.at(pair, NEXT);
            switch (heap.kindOf(base)) {
                case PAIR:
                    return heap.at(base, FIRST);
                case COPIED:
                    int part = heap.at(base, FIRST);
                    return heap.kindOf(part) == COPIED ? heap.make(VIEW, 0, part, place, place) : part;
                case PACKED:
                    Row values = knownValues(base);
                    return values == null ? packedValue(base, place) : values.get(place);
                default:
                    return plainValue(base, place);
            }
        }

        // The place in a datum whose pairs are made anew is its stamp; so a copy of such a list has two different ones.
        int restOf(int pair) {
            if (heap.kindOf(pair) == PAIR) {
                return heap.at(pair, REST);
            }
            int base = heap.at(pair, ITEM);
            int place = heap.at(pair, NEXT);
            int stamp = heap.at(pair, STAMP);
            int rest = heap.at(base, REST);
            switch (heap.kindOf(base)) {
                case PAIR:
                    return stampedAs(rest, stamp);
                case COPIED:
                    if (heap.kindOf(rest) == COPIED) {
                        return heap.make(VIEW, 0, rest, place, stamp);
                    }
                    return place == stamp ? rest : stampedAs(rest, stamp);
                default:
                    return place + 1 < countOf(base) ? heap.make(VIEW, 0, base, place + 1, stamp) : EMPTY_CELL;
            }
        }

        /** A list like this one with a stamp. */
        private int stampedAs(int list, int stamp) {
            switch (heap.kindOf(list)) {
                case PAIR:
                    return heap.make(VIEW, 0, list, 0, stamp);
                case VIEW:
                    return heap.make(VIEW, 0, heap.at(list, ITEM), heap.at(list, NEXT), stamp);
                default:
                    return list;
            }
        }

        int copyOf(int list) {
            return stampedAs(list, nextStamp());
        }

        /** A new list of the values of a row. */
        int listOf(int row) {
            return heap.make(VIEW, 0, row, 0, nextStamp());
        }

        /** A datum whose pairs are made anew, once for this call. */
        int madeAnew(int copied) {
            int stamp = nextStamp();
            return heap.make(VIEW, 0, copied, stamp, stamp);
        }

        /** A new pair, which bears the length of its list, if that is known, so that it is not counted again and again. */
        int pairOf(int first, int rest) {
            int length = quickLength(rest);
            return heap.make(PAIR, 0, first, rest, length >= 0 ? NO_LENGTH - 2 - length : length == NO_LENGTH ? length : 0);
        }

        /** The length of a list if it is known; NO_LENGTH if it is no list, UNKNOWN_LENGTH if it must be counted. */
        private int quickLength(int list) {
            boolean isView = heap.kindOf(list) == VIEW;
            int cell = isView ? heap.at(list, ITEM) : list;
            switch (heap.kindOf(cell)) {
                case EMPTY:
                    return 0;
                case ITEMS:
                case PACKED:
                    return countOf(cell) - heap.at(list, NEXT);
                case PAIR:
                    int noted = heap.at(cell, MEASURE);
                    return noted >= 0 ? UNKNOWN_LENGTH : noted == NO_LENGTH ? NO_LENGTH : NO_LENGTH - 1 - noted;
                case COPIED:
                    return UNKNOWN_LENGTH;
                default:
                    return NO_LENGTH;
            }
        }

        /** The number of parts of a list; -1 if it does not end with the empty list. */
        int lengthOf(int list) {
            int cell = list;
            for (int length = 0; length < MAX_CELLS; length++) {
                int left = quickLength(cell);
                if (left != UNKNOWN_LENGTH) {
                    return left == NO_LENGTH ? -1 : length + left;
                }
                cell = heap.at(heap.kindOf(cell) == VIEW ? heap.at(cell, ITEM) : cell, REST);
            }
            return -1;
        }

        // ---- primitives

        /** What a primitive comes to, but for first and rest; below 0 is an error: minus its letter. */
        int answer(int symbol, int one, int other) {
            switch (symbol) {
                case 16:
                    return pairOf(one, other);
                case 19:
                    return truthCell(isPair(one));
                case 20:
                    return truthCell(one == EMPTY_CELL);
                case 21:
                    return truthCell(heap.areSame(one, other));
                case 25:
                    return truthCell(one == FALSE_CELL);
                default:
                    return heap.kindOf(one) == NUMBER && heap.kindOf(other) == NUMBER ? reckon(symbol, one, other) : -'t';
            }
        }

        private static int truthCell(boolean isTrue) {
            return isTrue ? TRUE_CELL : FALSE_CELL;
        }

        /** The primitives of numbers. No product of two parts in range is over 10 to the 18th: nothing wraps around. */
        private int reckon(int symbol, int one, int other) {
            long a = heap.at(one, AMOUNT);
            long b = heap.at(one, DENOMINATOR);
            long c = heap.at(other, AMOUNT);
            long d = heap.at(other, DENOMINATOR);
            int number;
            switch (symbol) {
                case 10:
                    number = Store.fraction(heap, a * d + c * b, b * d);
                    break;
                case 11:
                    number = Store.fraction(heap, a * d - c * b, b * d);
                    break;
                case 12:
                    number = Store.fraction(heap, a * c, b * d);
                    break;
                case 13:
                    if (c == 0) {
                        return -'z';
                    }
                    number = Store.fraction(heap, a * d, b * c);
                    break;
                case 14:
                    return truthCell(a * d < c * b);
                default:
                    return truthCell(a == c && b == d);
            }
            return number == 0 ? -'o' : number;
        }
    }

    /**
     * The body of a procedure, or the program, that is evaluated at hand: the forms in it that wait for a part, and the
     * values of the parts of calls up to now. What is the last thing in the body waits for nothing.
     */
    private static final class Body {
        // What is next: to evaluate the form, to take the value, to apply a procedure.
        static final int EVALUATE = 0;
        static final int TAKE = 1;
        static final int APPLY = 2;
        private static final int PLACE_SHIFT = 2;
        private static final int PLACE_PARTS = 3;
        private static final int BASE_SHIFT = 13;

        private final Heap heap;
        private final Store store;
        private final Values values;
        // For each form that waits: its slot, where the cell is that with the part at hand; where its values begin and
        // which part of that cell it is; its path, if that was looked for.
        private final Row cursors;
        private final Row places;
        private final Row paths;
        private int level;
        final Row stack; // used as far as there are values
        int start; // where the procedure to be applied is, with its arguments behind it
        int site; // the last cell of parts of the call that is to be applied; 0 if it is none
        int mode;
        int value;
        int environment;
        private int form;
        char letter; // of an error, or 0
        private final Row saved;
        private final Row savedForm;

        Body(Heap heap, Store store, Values values) {
            this.heap = heap;
            this.store = store;
            this.values = values;
            cursors = heap.newSlotRoots(MAX_LEVEL, MAX_LEVEL);
            places = new Row(MAX_LEVEL, MAX_LEVEL);
            paths = heap.newRoots(MAX_LEVEL, MAX_LEVEL);
            stack = heap.newRoots(16, MAX_ROW);
            saved = heap.newRoots(2, 2);
            savedForm = heap.newSlotRoots(1, 1);
            reset();
        }

        private void reset() {
            level = -1;
            stack.used = 0;
            start = 0;
            site = 0;
        }

        /** Begins to evaluate a form by itself. */
        void startWith(int slot, int around) {
            reset();
            environment = around;
            form = slot;
            mode = EVALUATE;
            letter = 0;
        }

        /** Ends with a value, or 0. */
        void end(int last) {
            startWith(0, 0);
            value = last;
            mode = TAKE;
        }

        boolean isDone() {
            return level < 0;
        }

        /** Lets the heap see what is in use. */
        void save() {
            cursors.used = level + 1;
            paths.used = level + 1;
            saved.put(0, value);
            saved.put(1, environment);
            savedForm.put(0, form);
        }

        /** Lets a value be what the form at hand came to. */
        void give(int answer) {
            value = answer;
            mode = TAKE;
        }

        /** Lets a procedure be applied without arguments, as long as none are pushed. */
        void applyLater(int procedure) {
            reset();
            stack.add(procedure);
            mode = APPLY;
        }

        // ---- evaluation

        void evaluate() {
            int content = form >>> SLOT_SHIFT;
            switch (form & TAG_MASK) {
                case CALL:
                case BRANCH:
                    open(form, heap.at(content, 1));
                    break;
                case SEQUENCE:
                    int first = heap.at(content, 1);
                    if (slotBehind(content, 0) == 0) {
                        form = first;
                    } else {
                        open(form, first);
                    }
                    break;
                case LOCAL:
                    give(values.variable(environment, form));
                    break;
                case GLOBAL:
                    give(store.globalValue(content));
                    letter = value == 0 ? 'u' : letter;
                    break;
                case OTHER:
                    evaluateOther(content);
                    break;
                default:
                    give(content);
            }
        }

        private void evaluateOther(int cell) {
            switch (heap.kindOf(cell)) {
                case LAMBDA:
                    give(heap.make(CLOSURE, 0, cell, environment, values.nextStamp()));
                    break;
                case SYNTAX:
                    store.define(heap.at(cell, ITEM), MACRO, heap.at(cell, NEXT));
                    give(NOTHING_CELL);
                    break;
                default:
                    open(form, heap.at(cell, NEXT));
            }
        }

        /** Lets a form wait for one of its parts. */
        private void open(int slot, int part) {
            level++;
            cursors.put(level, slot);
            places.put(level, stack.used << PLACE_SHIFT);
            paths.put(level, 0);
            form = part;
        }

        /** The slot behind one of a cell of parts; 0 if there is none. */
        private int slotBehind(int parts, int index) {
            return index < 2 ? heap.at(parts, index + 2) : heap.at(heap.noteOf(parts), 1);
        }

        /** Takes the value for the form that waits for it. */
        void take() {
            int slot = cursors.get(level);
            int cell = slot >>> SLOT_SHIFT;
            paths.put(level, 0);
            switch (slot & TAG_MASK) {
                case CALL:
                    stack.add(value);
                    if (!isNextBegun(cell)) {
                        start = places.get(level) >> PLACE_SHIFT;
                        site = cell;
                        level--;
                        mode = APPLY;
                    }
                    break;
                case BRANCH:
                    level--;
                    form = heap.at(cell, value == FALSE_CELL ? 3 : 2);
                    mode = form == 0 ? TAKE : EVALUATE;
                    value = form == 0 ? NOTHING_CELL : value;
                    break;
                case SEQUENCE:
                    boolean isNext = isNextBegun(cell);
                    int now = cursors.get(level) >>> SLOT_SHIFT;
                    if (!isNext || slotBehind(now, places.get(level) & PLACE_PARTS) == 0) {
                        level--;
                    }
                    break;
                default:
                    level--;
                    assign(cell);
            }
        }

        /** Goes on to the next part of a form, if there is one. */
        private boolean isNextBegun(int parts) {
            int place = places.get(level);
            int index = place & PLACE_PARTS;
            int next = slotBehind(parts, index);
            if (next != 0) {
                int tag = cursors.get(level) & TAG_MASK;
                cursors.put(level, index < 2 ? cursors.get(level) : heap.noteOf(parts) << SLOT_SHIFT | tag);
                places.put(level, index < 2 ? place + 1 : place - index);
                form = next;
                mode = EVALUATE;
            }
            return next != 0;
        }

        private void assign(int cell) {
            int target = heap.at(cell, ITEM);
            int cellKind = heap.kindOf(cell);
            if (cellKind == SET_LOCAL) {
                values.setVariable(environment, target, value);
            } else if (cellKind == SET_GLOBAL && store.globalValue(target) == 0) {
                letter = 'u';
            } else {
                store.define(target, VARIABLE, value);
            }
            value = NOTHING_CELL;
        }

        // ---- frames

        /** Leaves the body for an application: the frames ahead of which is what is still to be done in it. */
        int leave(int frames) {
            stack.used = start;
            if (level < 0) {
                return frames;
            }
            int path = pathHere();
            int row = values.pack(stack, 0, stack.used, path << 2);
            int frame = heap.make(BODY_FRAME, path, row, frames, environment);
            reset();
            return frame;
        }

        /** Whether leaving the body makes a frame. */
        boolean waits() {
            return level >= 0;
        }

        private int pathHere() {
            int path = 0;
            for (int i = 0; i <= level; i++) {
                if (paths.get(i) == 0) {
                    int base = places.get(i) >> PLACE_SHIFT;
                    int behind = i < level ? places.get(i + 1) >> PLACE_SHIFT : stack.used;
                    int place = base << BASE_SHIFT | behind - base << PLACE_SHIFT | places.get(i) & PLACE_PARTS;
                    paths.put(i, heap.makeShared(PATH, 0, cursors.get(i), path, place));
                }
                path = paths.get(i);
            }
            return path;
        }

        /** How many values wait at a path. */
        private int countAt(int path) {
            int place = heap.at(path, EXTRA);
            return (place >> BASE_SHIFT) + (place >> PLACE_SHIFT & PLACE_MASK);
        }

        /** How many values there are here, or are to be when a frame is gone on with. */
        int countOfValues(int frame) {
            return level < 0 && mode == TAKE && heap.kindOf(frame) == BODY_FRAME ? countAt(heap.noteOf(frame)) : stack.used;
        }

        /** Goes on with the body of a frame, where the value at hand is waited for. */
        void resume(int frame) {
            int path = heap.noteOf(frame);
            stack.used = countAt(path);
            values.unpack(heap.at(frame, ITEM), stack.used, stack);
            environment = heap.at(frame, EXTRA);
            level = -1;
            for (int cell = path; level < MAX_FORMS_AROUND && cell != 0; cell = heap.at(cell, NEXT)) {
                level++;
            }
            int at = path;
            for (int i = level; i >= 0; i--) {
                int place = heap.at(at, EXTRA);
                cursors.put(i, heap.at(at, ITEM));
                places.put(i, place >> BASE_SHIFT << PLACE_SHIFT | place & PLACE_PARTS);
                paths.put(i, at);
                at = heap.at(at, NEXT);
            }
            mode = TAKE;
        }
    }

    /** The run at hand: procedures are applied, and what is still to be done behind a body is a chain of frames. */
    private static final class Machine {
        private static final byte[] ARGUMENTS = {2, 2, 2, 2, 2, 2, 2, 1, 1, 1, 1, 2, 1, 3, 2, 1, 2, 1, 2, 1};
        private static final int MOST_PAIRS = 3;
        private static final int REGISTERS = 4;
        private static final int ENTERING = 1;

        private final Heap heap;
        private final Store store;
        private final Values values;
        private final Counts counts;
        private final Body body;
        private final Row saved;
        private final Row arguments; // of a primitive
        private int due; // behind an application, when the body is left: the symbol of a primitive, or ENTERING
        private int inner; // the environment of the body that is then entered
        char status; // 0 ahead of the first program, 'r', 'v', or the letter of an error
        private int frames;
        private int list; // the arguments, if they are the parts of a list; otherwise 0
        private int topWind;
        private int topHandler;

        Machine(Heap heap, Store store, Values values, Counts counts) {
            this.heap = heap;
            this.store = store;
            this.values = values;
            this.counts = counts;
            body = new Body(heap, store, values);
            saved = heap.newRoots(REGISTERS, REGISTERS);
            arguments = new Row(3, 3);
        }

        boolean isBegun() {
            return status != 0;
        }

        char stateNow() {
            return status == 0 || status == 'r' || status == 'v' ? status : 'e';
        }

        /** The value with which the run ended. */
        int result() {
            return body.value;
        }

        private int depthOf(int wind) {
            return heap.at(heap.at(wind, ITEM), EXTRA);
        }

        int countOfWinds() {
            return depthOf(topWind);
        }

        int countOfHandlers() {
            return heap.at(topHandler, EXTRA);
        }

        /** Gives up what there was of an earlier run. */
        void stop() {
            counts.abandoned += countOfWinds();
            giveUp(0);
            save();
        }

        /** Begins with this program; with 0, which is a wrong one, it ends at once. */
        char start(int program, char wrong) {
            counts.applicationsOfRun = 0;
            status = 'r';
            body.startWith(program, 0);
            if (program == 0) {
                fail(wrong);
            }
            save();
            return stateNow();
        }

        char goOn(int units) {
            int fuel = units;
            for (int i = 0; i < MAX_STEPS && status == 'r' && (body.mode != Body.APPLY || fuel > 0); i++) {
                int needed = STEP + 5 * body.countOfValues(frames) + 16 * values.largest + (list == 0 ? 0 : 2 * SLACK);
                if (heap.freeCells < needed) {
                    save();
                    if (!heap.makeRoom(needed, RESERVE)) {
                        fail('o');
                        break;
                    }
                }
                if (body.mode == Body.EVALUATE) {
                    body.evaluate();
                } else if (body.mode == Body.APPLY) {
                    fuel--;
                    counts.applications++;
                    counts.applicationsOfRun++;
                    int procedure = body.stack.get(body.start);
                    due = 0;
                    switch (heap.kindOf(procedure)) {
                        case CLOSURE:
                            bind(procedure);
                            break;
                        case PRIMITIVE:
                            applyPrimitive(heap.at(procedure, AMOUNT));
                            break;
                        case CONTINUATION:
                            applyContinuation(procedure);
                            break;
                        default:
                            body.letter = 'n';
                    }
                    list = 0;
                    if (due != 0) {
                        values.packVariables(body.waits() ? body.environment : 0, 5 * body.stack.used);
                        frames = body.leave(frames);
                        goInto(procedure);
                    }
                } else if (body.isDone()) {
                    giveToFrame();
                } else {
                    body.take();
                }
                if (body.letter != 0) {
                    fail(body.letter);
                }
            }
            save();
            return stateNow();
        }

        /** Lets the heap see what is in use. */
        private void save() {
            body.save();
            saved.put(0, frames);
            saved.put(1, topWind);
            saved.put(2, topHandler);
            saved.put(3, list);
        }

        private void giveUp(int last) {
            body.end(last);
            frames = 0;
            list = 0;
            topWind = 0;
            topHandler = 0;
        }

        private void fail(char errorLetter) {
            counts.abandoned += countOfWinds();
            giveUp(0);
            end(errorLetter);
        }

        private void finish() {
            giveUp(body.value);
            end('v');
            counts.endedWithValue++;
        }

        private void end(char how) {
            status = how;
            counts.ended++;
            counts.applicationsOfEnded += counts.applicationsOfRun;
        }

        private void push(int frameKind, int subject, int extra) {
            frames = heap.make(frameKind, 0, subject, frames, extra);
        }

        // ---- frames

        private void giveToFrame() {
            int frame = frames;
            if (frame == 0) {
                finish();
                return;
            }
            frames = heap.at(frame, NEXT);
            int subject = heap.at(frame, ITEM);
            int extra = heap.at(frame, EXTRA);
            switch (heap.kindOf(frame)) {
                case BODY_FRAME:
                    body.resume(frame);
                    break;
                case HANDLER_FRAME:
                    topHandler = subject;
                    break;
                case BEFORE_FRAME:
                    enter(subject);
                    push(DURING_FRAME, subject, 0);
                    body.applyLater(extra);
                    break;
                case DURING_FRAME:
                    push(AFTER_FRAME, body.value, 0);
                    leaveWind(subject);
                    break;
                case AFTER_FRAME:
                    body.value = subject;
                    break;
                case JUMP_FRAME:
                    goOnWithJump(subject, extra);
                    break;
                case ENTER_FRAME:
                    enter(extra);
                    goOnWithJump(subject, extra);
                    break;
                default:
                    // A prompt that is come back to lets the value through.
                    break;
            }
        }

        private void enter(int wind) {
            topWind = wind;
            counts.entered++;
        }

        /** Leaves the innermost wind, and applies its after. */
        private void leaveWind(int wind) {
            topWind = heap.at(wind, NEXT);
            counts.left++;
            topHandler = heap.at(wind, EXTRA);
            body.applyLater(heap.at(heap.at(wind, ITEM), NEXT));
        }

        // ---- applications

        private int argumentCount() {
            return list == 0 ? body.stack.used - body.start - 1 : values.lengthOf(list);
        }

        /** Makes the environment in which the body of a closure is evaluated. */
        private void bind(int closure) {
            int lambda = heap.at(closure, CODE);
            int around = heap.at(closure, AROUND);
            int parameters = heap.at(lambda, ITEM) >> 1;
            boolean hasRest = (heap.at(lambda, ITEM) & 1) != 0;
            int count = argumentCount();
            if (count < parameters || count > parameters && !hasRest) {
                body.letter = 'a';
                return;
            }
            Row stack = body.stack;
            int first = body.start + 1;
            int key = lambda * 31 + body.site << 2;
            int left = list;
            for (int i = 0; i < parameters && list != 0; i++) {
                stack.put(first + i, values.firstOf(left));
                left = values.restOf(left);
            }
            int extra = count - parameters;
            int rest = EMPTY_CELL;
            if (hasRest && list != 0) {
                rest = values.copyOf(left);
            } else if (extra > MOST_PAIRS) {
                rest = values.listOf(values.pack(stack, first + parameters, extra, key | 2));
            } else {
                for (int i = extra - 1; i >= 0; i--) {
                    rest = values.pairOf(stack.get(first + parameters + i), rest);
                }
            }
            if (hasRest) {
                stack.put(first + parameters, rest);
            }
            int bound = parameters + (hasRest ? 1 : 0);
            inner = around;
            if (bound == 1) {
                inner = heap.make(ONE_ENVIRONMENT, 0, stack.get(first), around, 0);
            } else if (bound > 1) {
                int row = values.pack(stack, first, bound, key | 1);
                inner = heap.make(ENVIRONMENT, 0, row, around, lambda);
            }
            due = ENTERING;
        }

        private void applyContinuation(int continuation) {
            if (argumentCount() == 1) {
                int carried = list == 0 ? body.stack.get(body.start + 1) : values.firstOf(list);
                jump(continuation, carried, 0);
            } else {
                body.letter = 'a';
            }
        }

        /** Applies a primitive; one that changes what is still to be done is then due. */
        private void applyPrimitive(int symbol) {
            int place = symbol - FIRST_PRIMITIVE;
            int count = place >= 0 && place < ARGUMENTS.length ? ARGUMENTS[place] : 0;
            if (argumentCount() != count) {
                body.letter = 'a';
                return;
            }
            int left = list;
            for (int i = 0; i < count; i++) {
                arguments.put(i, list == 0 ? body.stack.get(body.start + 1 + i) : values.firstOf(left));
                left = list == 0 ? 0 : values.restOf(left);
            }
            if (symbol >= 22 && symbol != 25) {
                due = symbol;
                return;
            }
            int one = arguments.get(0);
            boolean isOfPairs = symbol == 17 || symbol == 18;
            int answer = -'t';
            if (!isOfPairs) {
                answer = values.answer(symbol, one, arguments.get(1));
            } else if (values.isPair(one)) {
                answer = symbol == 17 ? values.firstOf(one) : values.restOf(one);
            }
            if (answer < 0) {
                body.letter = (char) -answer;
            } else {
                body.stack.used = body.start;
                body.give(answer);
            }
        }

        /** Goes on with what is due when the body has been left. */
        private void goInto(int procedure) {
            if (due == ENTERING) {
                int lambda = heap.at(procedure, CODE);
                body.startWith(SEQUENCE | heap.at(lambda, NEXT) << SLOT_SHIFT, inner);
            } else {
                control(due, arguments.get(0), arguments.get(1), arguments.get(2));
            }
        }

        private void control(int symbol, int one, int other, int third) {
            switch (symbol) {
                case 22:
                    body.applyLater(one);
                    body.stack.add(heap.make(CONTINUATION, 0, frames, topWind, topHandler));
                    break;
                case 23:
                    wind(one, other, third);
                    break;
                case 24:
                    body.applyLater(one);
                    list = other;
                    if (values.lengthOf(other) < 0) {
                        body.letter = 't';
                    }
                    break;
                case 26:
                    push(PROMPT_FRAME, other, heap.make(CONTINUATION, 0, frames, topWind, topHandler));
                    body.applyLater(one);
                    break;
                case 27:
                    int prompt = innermostPrompt();
                    if (prompt == 0) {
                        body.letter = 'w';
                    } else {
                        jump(heap.at(prompt, EXTRA), one, heap.at(prompt, ITEM));
                    }
                    break;
                case 28:
                    push(HANDLER_FRAME, topHandler, 0);
                    topHandler = heap.make(HANDLER, 0, one, topHandler, countOfHandlers() + 1);
                    body.applyLater(other);
                    break;
                default:
                    raise(one);
            }
        }

        // A wind knows its parent and one further out, so that any that is around it is found in a few steps.
        private void wind(int before, int during, int after) {
            int thunks = heap.make(THUNKS, 0, before, after, depthOf(topWind) + 1);
            int out = heap.noteOf(topWind);
            int further = heap.noteOf(out);
            boolean isEven = depthOf(topWind) - depthOf(out) == depthOf(out) - depthOf(further);
            int wind = heap.make(WIND, topWind != 0 && isEven ? further : topWind, thunks, topWind, topHandler);
            push(BEFORE_FRAME, wind, during);
            body.applyLater(before);
        }

        private void raise(int raised) {
            if (topHandler == 0) {
                body.letter = 'h';
                return;
            }
            int handler = topHandler;
            push(HANDLER_FRAME, handler, 0);
            topHandler = heap.at(handler, NEXT);
            body.applyLater(heap.at(handler, ITEM));
            body.stack.add(raised);
        }

        /** The frame of the innermost prompt; 0 if there is none. */
        private int innermostPrompt() {
            int frame = frames;
            for (int i = 0; i < MAX_CELLS && frame != 0 && heap.kindOf(frame) != PROMPT_FRAME; i++) {
                frame = heap.at(frame, NEXT);
            }
            return frame;
        }

        /** Jumps to a continuation, where the value goes on, or is taken by a procedure. */
        private void jump(int target, int carried, int taker) {
            counts.jumps++;
            int goal = heap.make(GOAL, 0, target, carried, taker);
            frames = 0;
            push(JUMP_FRAME, goal, innermostOfBoth(topWind, heap.at(target, WINDS)));
            body.end(NOTHING_CELL);
        }

        /** The wind at this depth that is around a wind, or is that one. */
        private int windAround(int wind, int depth) {
            int around = wind;
            for (int i = 0; i < MAX_CELLS && heap.at(heap.at(around, ITEM), EXTRA) > depth; i++) {
                int further = heap.noteOf(around);
                boolean isWithin = heap.at(heap.at(further, ITEM), EXTRA) >= depth;
                around = isWithin ? further : heap.at(around, NEXT);
            }
            return around;
        }

        private int innermostOfBoth(int one, int other) {
            int a = windAround(one, depthOf(other));
            int b = windAround(other, depthOf(one));
            for (int i = 0; i < MAX_CELLS && a != b; i++) {
                boolean isFar = heap.noteOf(a) != heap.noteOf(b);
                a = isFar ? heap.noteOf(a) : heap.at(a, NEXT);
                b = isFar ? heap.noteOf(b) : heap.at(b, NEXT);
            }
            return a;
        }

        /** Leaves the next wind that the goal is not in, or enters the next one that it is in, or arrives. */
        private void goOnWithJump(int goal, int staying) {
            int target = heap.at(goal, ITEM);
            int innermost = heap.at(target, WINDS);
            frames = heap.at(target, FRAMES);
            if (topWind != staying && topWind != 0) {
                push(JUMP_FRAME, goal, staying);
                leaveWind(topWind);
            } else if (staying != innermost) {
                int next = windAround(innermost, depthOf(staying) + 1);
                push(ENTER_FRAME, goal, next);
                topHandler = heap.at(next, EXTRA);
                body.applyLater(heap.at(heap.at(next, ITEM), ITEM));
            } else {
                topHandler = heap.at(target, HANDLERS);
                arrive(heap.at(goal, NEXT), heap.at(goal, EXTRA));
            }
        }

        private void arrive(int carried, int taker) {
            if (taker == 0) {
                body.give(carried);
            } else {
                body.applyLater(taker);
                body.stack.add(carried);
            }
        }
    }
}
