import java.util.NoSuchElementException;

/**
 * A small Scheme whose programs are data, laid by calls or read from text, and run by units of fuel.
 *
 * <p>All that programs make lives in one heap of equal cells that are used again when nothing reaches them, so that a
 * long row of calls needs no more room than what is still in use. A cell is named by a number; 0 is no cell.
 */
public final class WindwardScheme {
    // The limits of the document.
    private static final int MAX_DATA = 3000;
    private static final int MAX_LAID_DEPTH = 60;
    private static final int MAX_MADE_DEPTH = 100;
    private static final int MAX_SIZE = 3000;
    private static final int MAX_AMOUNT = 1000000000;
    private static final int MAX_TEXT = 500;
    private static final int MAX_FUEL = 500;
    private static final int MAX_FORMS_AROUND = 100;
    private static final int MAX_EXPANSIONS = 200;
    private static final int SYMBOLS = 60;

    // The symbols that mean something from the first.
    private static final int QUOTE_SYMBOL = 0;
    private static final int IF_SYMBOL = 1;
    private static final int LAMBDA_SYMBOL = 2;
    private static final int DEFINE_SYMBOL = 3;
    private static final int SET_SYMBOL = 4;
    private static final int BEGIN_SYMBOL = 5;
    private static final int SYNTAX_SYMBOL = 6;
    private static final int ELLIPSIS_SYMBOL = 7;
    private static final int BLANK_SYMBOL = 8;
    private static final int FIRST_PRIMITIVE = 10;
    private static final int LAST_OF_NUMBERS = 15;
    private static final int LAST_PRIMITIVE = 29;

    // What a symbol can be.
    private static final int UNKNOWN = 0;
    private static final int KEYWORD = 1;
    private static final int MACRO = 2;
    private static final int VARIABLE = 3;

    // Kinds of cells: data and other values.
    private static final int FREE = 0;
    private static final int NUMBER = 1; // numerator, denominator
    private static final int SYMBOL = 2; // its number
    private static final int RENAMED = 3; // the name under it, its mark
    private static final int TRUTH = 4; // 1 or 0
    private static final int EMPTY = 5;
    private static final int PAIR = 6; // first part, other part, measure
    private static final int NOTHING = 7;
    private static final int CLOSURE = 8; // code, environment
    private static final int PRIMITIVE = 9; // its symbol
    private static final int CONTINUATION = 10; // frames, winds, handlers
    // Kinds of cells: code that comes to a value at once.
    private static final int ITSELF = 11; // value
    private static final int QUOTED = 12; // value
    private static final int LOCAL = 13; // how many bindings lie inside of it, -, number of the bound variable
    private static final int GLOBAL = 14; // symbol
    private static final int LAMBDA = 15; // twice the parameters and 1 for a rest, body, number of the first one
    // Kinds of cells: other code; its parts are a row of links.
    private static final int BRANCH = 16; // -, parts
    private static final int SET_LOCAL = 17; // as LOCAL, with parts
    private static final int SET_GLOBAL = 18; // symbol, parts
    private static final int DEFINITION = 19; // symbol, parts
    private static final int SYNTAX = 20; // symbol, literals and rules
    private static final int SEQUENCE = 21; // -, parts
    private static final int CALL = 22; // -, parts
    // Kinds of cells: rows, each with an item and the next one.
    private static final int LINK = 23; // item, next
    private static final int SCOPE = 24; // name, next, number of the bound variable
    private static final int MATCH = 25; // pattern variable, next, what it matched
    private static final int ROW = 26; // first link, last link, length
    private static final int BINDING = 27; // value, next
    private static final int OPERAND = 28; // value, the one before it, the parts behind it
    // Kinds of cells: frames, of what is still to be done.
    private static final int TEST_FRAME = 29; // branches, next, environment
    private static final int STORE_FRAME = 30; // code, next, environment
    private static final int BODY_FRAME = 31; // forms, next, environment
    private static final int OPERATOR_FRAME = 32; // parts, next, environment
    private static final int OPERAND_FRAME = 33; // operands, next, environment
    private static final int HANDLER_FRAME = 34; // handlers to come back to, next
    private static final int PROMPT_FRAME = 35; // handler, next, continuation of the prompt
    private static final int BEFORE_FRAME = 36; // wind, next, during
    private static final int DURING_FRAME = 37; // wind, next
    private static final int AFTER_FRAME = 38; // value, next
    private static final int JUMP_FRAME = 39; // goal, next, winds to be entered
    private static final int ENTER_FRAME = 40; // goal, next, winds to be entered, the first one after its before
    // Kinds of cells: what frames and registers hold.
    private static final int WIND = 41; // thunks, the wind around it, handlers
    private static final int THUNKS = 42; // before, after, how many winds there are with it
    private static final int HANDLER = 43; // procedure, the handler around it, how many handlers there are with it
    private static final int GOAL = 44; // continuation, value, procedure that takes it or 0

    // The fields of a cell that name other cells, by kind: 1 the first field, 2 the second, 4 the third.
    private static final byte[] REFERENCES = {
        0, 0, 0, 1, 0, 0, 3, 0, 3, 0, 7, 1, 1, 0, 0, 2, 2, 2, 2, 2, 2, 2, 2, 3, 3, 7, 3, 3, 7, 7, 7, 7, 7, 7, 3, 7, 7, 3,
        3, 7, 7, 7, 3, 3, 7
    };

    // The fields of cells, by the names that fit their kinds.
    private static final int HEAD = 0;
    private static final int FIRST = 1;
    private static final int REST = 2;
    private static final int MEASURE = 3;
    private static final int AMOUNT = 1;
    private static final int DENOMINATOR = 2;
    private static final int UNDER = 1;
    private static final int STAMP = 2;
    private static final int CODE = 1;
    private static final int ENVIRONMENT = 2;
    private static final int FRAMES = 1;
    private static final int WINDS = 2;
    private static final int HANDLERS = 3;
    private static final int INFO = 1;
    private static final int PARTS = 2;
    private static final int PLACE = 3;
    private static final int ITEM = 1;
    private static final int NEXT = 2;
    private static final int EXTRA = 3;

    // The cells that are always there, in the order in which Store makes them.
    private static final int FIRST_SYMBOL_CELL = 1;
    private static final int FALSE_CELL = 61;
    private static final int TRUE_CELL = 62;
    private static final int EMPTY_CELL = 63;
    private static final int NOTHING_CELL = 64;
    private static final int PRIMITIVE_CELLS = 55;

    // The measure of a pair: its size, its depth, and whether a renamed symbol is in it.
    private static final int SIZE_MASK = 4095;
    private static final int DEPTH_SHIFT = 12;
    private static final int DEPTH_MASK = 127;
    private static final int RENAMED_INSIDE = 1 << 19;
    private static final int MEASURE_OF_ONE = 1 << 12 | 1;

    // The heap.
    private static final int CHUNK_BITS = 10;
    private static final int CHUNK_CELLS = 1024;
    private static final int MAX_CHUNKS = 1700;
    private static final int MAX_CELLS = MAX_CHUNKS * CHUNK_CELLS;
    private static final int KIND_MASK = 63;
    private static final int MARKED = 64;
    private static final int KEPT = 128;
    private static final int LINK_SHIFT = 8;

    // Bounds of loops and recursions that no run comes near to.
    private static final int MAX_STEPS = 2000000000;
    private static final int MAX_LEVEL = 104;

    private final Store store;
    private final Writer writer;
    private final Reader reader;
    private final Expander expander;
    private final Machine machine;
    private final Counts counts;

    public WindwardScheme() {
        Heap heap = new Heap();
        Store laid = new Store(heap);
        Counts counted = new Counts();
        store = laid;
        counts = counted;
        writer = new Writer(heap);
        reader = new Reader();
        expander = new Expander(heap, laid);
        machine = new Machine(heap, laid, counted);
    }

    // ---- data

    public int number(int numerator, int denominator) throws IllegalArgumentException, IllegalStateException {
        if (!Store.fits(numerator, denominator)) {
            throw new IllegalArgumentException("the denominator is 0, or the number is out of range");
        }
        needRoomForOne();
        return needLaid(store.lay(store.fraction(numerator, denominator)));
    }

    public int symbol(int symbol) throws IllegalArgumentException, IllegalStateException {
        needSymbol(symbol);
        return needLaid(store.lay(FIRST_SYMBOL_CELL + symbol));
    }

    public int truth(boolean isTrue) throws IllegalStateException {
        return needLaid(store.lay(isTrue ? TRUE_CELL : FALSE_CELL));
    }

    public int empty() throws IllegalStateException {
        return needLaid(store.lay(EMPTY_CELL));
    }

    public int pair(int first, int rest) throws IndexOutOfBoundsException, IllegalStateException {
        needDatum(first);
        needDatum(rest);
        needRoomForOne();
        return needLaid(store.layPair(first, rest));
    }

    public int data() {
        return store.count;
    }

    public char kind(int datum) throws IndexOutOfBoundsException {
        needDatum(datum);
        return store.letterOf(store.cellOf(datum));
    }

    public int part(int datum, boolean isFirst) throws IndexOutOfBoundsException, UnsupportedOperationException {
        needDatum(datum);
        if (kind(datum) != 'p') {
            throw new UnsupportedOperationException("no pair");
        }
        return store.partOf(datum, isFirst);
    }

    public long amount(int datum) throws IndexOutOfBoundsException, UnsupportedOperationException {
        char letter = kind(datum);
        if (letter != 'n' && letter != 's' && letter != 't') {
            throw new UnsupportedOperationException("neither a number nor a name nor a truth");
        }
        return store.amountOf(datum);
    }

    public double asDouble(int datum) throws IndexOutOfBoundsException, UnsupportedOperationException {
        if (kind(datum) != 'n') {
            throw new UnsupportedOperationException("no number");
        }
        return store.quotientOf(datum);
    }

    public boolean areAlike(int datum, int other) throws IndexOutOfBoundsException {
        needDatum(datum);
        needDatum(other);
        return store.areShapedAlike(store.cellOf(datum), store.cellOf(other));
    }

    // ---- text

    public int write(int datum) throws IndexOutOfBoundsException, UnsupportedOperationException {
        needDatum(datum);
        return needWritten(writer.putDatum(store.cellOf(datum)));
    }

    public int writeExpanded(int datum)
            throws IndexOutOfBoundsException, IllegalArgumentException, UnsupportedOperationException {
        needDatum(datum);
        int code = expander.expand(store.cellOf(datum));
        if (code == 0) {
            throw new IllegalArgumentException("the program is wrong");
        }
        return needWritten(writer.putProgram(code));
    }

    public char charAt(int index) throws IndexOutOfBoundsException {
        if (index < 0 || index >= writer.length) {
            throw new IndexOutOfBoundsException("no such place in the text");
        }
        return writer.signAt(index);
    }

    public int type(char character) throws IllegalArgumentException, IllegalStateException {
        if (character < 32 || character > 126) {
            throw new IllegalArgumentException("the character is out of range");
        }
        if (writer.length >= MAX_TEXT) {
            throw new IllegalStateException("the text is full");
        }
        return writer.append(character);
    }

    public int clear() {
        return writer.forget();
    }

    public int read() throws IllegalArgumentException, IllegalStateException {
        if (!reader.takes(writer)) {
            throw new IllegalArgumentException("the text is no datum");
        }
        if (reader.needed > MAX_DATA - store.count) {
            throw new IllegalStateException("there would be too many data");
        }
        return needLaid(reader.layAll(store));
    }

    // ---- running

    public char begin(int datum) throws IndexOutOfBoundsException {
        needDatum(datum);
        int code = expander.expand(store.cellOf(datum));
        counts.expansions += expander.used;
        return machine.start(code);
    }

    public char run(int fuel) throws IllegalStateException, IllegalArgumentException {
        needBegun();
        if (fuel < 1 || fuel > MAX_FUEL) {
            throw new IllegalArgumentException("the number of applications is out of range");
        }
        return machine.goOn(fuel);
    }

    public char state() throws IllegalStateException {
        needBegun();
        return machine.status;
    }

    public char valueKind() throws IllegalStateException, NoSuchElementException {
        needValue();
        return store.letterOf(machine.value);
    }

    public long valueAmount() throws IllegalStateException, NoSuchElementException, UnsupportedOperationException {
        needValue();
        if (store.letterOf(machine.value) != 'n') {
            throw new UnsupportedOperationException("the value is no number");
        }
        return store.firstFieldOf(machine.value);
    }

    public int writeValue() throws IllegalStateException, NoSuchElementException, UnsupportedOperationException {
        needValue();
        return needWritten(writer.putDatum(machine.value));
    }

    public char error() throws IllegalStateException, NoSuchElementException {
        needBegun();
        if (machine.status != 'e') {
            throw new NoSuchElementException("the run did not end with an error");
        }
        return machine.letter;
    }

    public int winds() throws IllegalStateException {
        needBegun();
        return machine.countOfWinds();
    }

    public int handlers() throws IllegalStateException {
        needBegun();
        return machine.countOfHandlers();
    }

    public int writeGlobal(int symbol)
            throws IllegalArgumentException, NoSuchElementException, UnsupportedOperationException {
        needSymbol(symbol);
        int global = store.globalValue(symbol);
        if (global == 0) {
            throw new NoSuchElementException("no global variable with a value");
        }
        return needWritten(writer.putDatum(global));
    }

    public char meaning(int symbol) throws IllegalArgumentException {
        needSymbol(symbol);
        switch (store.meaningOf(symbol)) {
            case KEYWORD:
                return 'k';
            case MACRO:
                return 'm';
            case VARIABLE:
                return 'v';
            default:
                return '-';
        }
    }

    // ---- counts

    public long applications() {
        return counts.applications;
    }

    public int expansions() {
        return counts.expansions;
    }

    public int entered() {
        return counts.entered;
    }

    public int left() {
        return counts.left;
    }

    public int jumps() {
        return counts.jumps;
    }

    public float valueShare() throws ArithmeticException {
        needEnded();
        return (float) counts.endedWithValue / (float) counts.ended;
    }

    public double meanApplications() throws ArithmeticException {
        needEnded();
        return (double) counts.applicationsOfEnded / (double) counts.ended;
    }

    public boolean isSound() {
        return store.areDataSound() && counts.entered - counts.left == counts.abandoned + machine.countOfWinds();
    }

    // ---- what the calls need

    private void needDatum(int datum) {
        if (!store.has(datum)) {
            throw new IndexOutOfBoundsException("no such datum");
        }
    }

    private void needSymbol(int symbol) {
        if (symbol < 0 || symbol >= SYMBOLS) {
            throw new IllegalArgumentException("no such symbol");
        }
    }

    private void needRoomForOne() {
        if (store.count >= MAX_DATA) {
            throw new IllegalStateException("there are too many data");
        }
    }

    private static int needLaid(int datum) {
        if (datum < 0) {
            throw new IllegalStateException("the datum cannot be laid");
        }
        return datum;
    }

    private static int needWritten(int length) {
        if (length < 0) {
            throw new UnsupportedOperationException("the text would be too long");
        }
        return length;
    }

    private void needBegun() {
        if (!machine.isBegun()) {
            throw new IllegalStateException("no program was begun");
        }
    }

    private void needValue() {
        needBegun();
        if (machine.status != 'v') {
            throw new NoSuchElementException("the run did not end with a value");
        }
    }

    private void needEnded() {
        if (counts.ended == 0) {
            throw new ArithmeticException("no run has ended");
        }
    }

    /** A row of numbers; outside of it there are zeros. */
    private static final class Row {
        final int[] words;

        Row(int length) {
            words = new int[length < 0 ? 0 : length];
        }

        int get(int index) {
            return index >= 0 && index < words.length ? words[index] : 0;
        }

        void put(int index, int word) {
            if (index >= 0 && index < words.length) {
                words[index] = word;
            }
        }
    }

    /** Cells of a head and three fields. Those that no root reaches are found by collect() and used again. */
    private static final class Heap {
        private static final int MAX_ROOTS = 8;
        private static final int MIN_DUE = 8192;
        private static final int RESERVE = 65536;

        private final Row[] chunks;
        private final Row[] roots;
        private int rootCount;
        private int fresh;
        private int free;
        private int made;
        private int due;
        private int live;
        private int gray;

        Heap() {
            chunks = new Row[MAX_CHUNKS];
            roots = new Row[MAX_ROOTS];
            fresh = 1;
            due = MIN_DUE;
        }

        /** A new cell; 0 if the heap is full. */
        int make(int cellKind, int one, int two, int three) {
            boolean isUsedAgain = free != 0;
            int cell = isUsedAgain ? free : fresh;
            int place = cell >> CHUNK_BITS;
            if (place < 0 || place >= chunks.length) {
                return 0;
            }
            if (chunks[place] == null) {
                chunks[place] = new Row(CHUNK_CELLS * 4);
            }
            int[] words = chunks[place].words;
            int base = (cell & (CHUNK_CELLS - 1)) << 2;
            if (base + 3 >= words.length) {
                return 0;
            }
            if (isUsedAgain) {
                free = words[base + 1];
            } else {
                fresh++;
            }
            words[base] = cellKind;
            words[base + 1] = one;
            words[base + 2] = two;
            words[base + 3] = three;
            made++;
            return cell;
        }

        int at(int cell, int field) {
            int place = cell >> CHUNK_BITS;
            if (place < 0 || place >= chunks.length || chunks[place] == null) {
                return 0;
            }
            int[] words = chunks[place].words;
            int index = ((cell & (CHUNK_CELLS - 1)) << 2) + field;
            return index >= 0 && index < words.length ? words[index] : 0;
        }

        void put(int cell, int field, int word) {
            int place = cell >> CHUNK_BITS;
            if (cell != 0 && place >= 0 && place < chunks.length && chunks[place] != null) {
                chunks[place].put(((cell & (CHUNK_CELLS - 1)) << 2) + field, word);
            }
        }

        int kindOf(int cell) {
            int place = cell >> CHUNK_BITS;
            if (place < 0 || place >= chunks.length || chunks[place] == null) {
                return FREE;
            }
            int[] words = chunks[place].words;
            int index = (cell & (CHUNK_CELLS - 1)) << 2;
            return index < words.length ? words[index] & KIND_MASK : FREE;
        }

        /** Lets a cell stay for ever; all that it reaches must stay, too. */
        void keep(int cell) {
            put(cell, HEAD, at(cell, HEAD) | KEPT);
        }

        /** A note on a cell, for a work that ends ahead of the next collection and takes its notes back. */
        int noteOf(int cell) {
            return at(cell, HEAD) >>> LINK_SHIFT;
        }

        void setNote(int cell, int note) {
            put(cell, HEAD, at(cell, HEAD) & (1 << LINK_SHIFT) - 1 | note << LINK_SHIFT);
        }

        /** A new row of cells that stay as long as they stand in it. */
        Row newRoots(int length) {
            Row row = new Row(length);
            if (rootCount >= 0 && rootCount < roots.length) {
                roots[rootCount] = row;
                rootCount++;
            }
            return row;
        }

        boolean isDue() {
            return made >= due;
        }

        /** Whether so much is in use that just the reserve is left, which is for data and expansions. */
        boolean isFull() {
            return live > MAX_CELLS - RESERVE;
        }

        void collect() {
            gray = 0;
            for (int i = 0; i < rootCount && i < roots.length; i++) {
                Row row = roots[i];
                int length = row == null ? 0 : row.words.length;
                for (int j = 0; j < length; j++) {
                    shade(row.get(j));
                }
            }
            for (int i = 0; i < MAX_CELLS && gray != 0; i++) {
                int cell = gray;
                int head = at(cell, HEAD);
                int cellKind = head & KIND_MASK;
                gray = head >>> LINK_SHIFT;
                put(cell, HEAD, cellKind | MARKED);
                int fields = cellKind < REFERENCES.length ? REFERENCES[cellKind] : 0;
                for (int field = 1; field <= 3; field++) {
                    if ((fields >> (field - 1) & 1) != 0) {
                        shade(at(cell, field));
                    }
                }
            }
            sweep();
        }

        private void shade(int cell) {
            int head = at(cell, HEAD);
            if ((head & (MARKED | KEPT)) == 0 && (head & KIND_MASK) != FREE) {
                put(cell, HEAD, head & KIND_MASK | MARKED | gray << LINK_SHIFT);
                gray = cell;
            }
        }

        private void sweep() {
            live = 0;
            free = 0;
            for (int cell = fresh - 1; cell > 0; cell--) {
                int head = at(cell, HEAD);
                if ((head & (MARKED | KEPT)) != 0) {
                    put(cell, HEAD, head & ~MARKED);
                    live++;
                } else {
                    put(cell, HEAD, FREE);
                    put(cell, ITEM, free);
                    free = cell;
                }
            }
            made = 0;
            int spare = MAX_CELLS - live - RESERVE;
            due = Math.max(MIN_DUE, Math.min(live / 2, spare));
        }
    }

    /** The laid data, the global variables, and what data are to one another. */
    private static final class Store {
        private final Heap heap;
        private final int[] cells;
        private final int[] firsts;
        private final int[] rests;
        int count;
        private final int[] meanings;
        private final Row contents;

        Store(Heap heap) {
            this.heap = heap;
            cells = new int[MAX_DATA];
            firsts = new int[MAX_DATA];
            rests = new int[MAX_DATA];
            meanings = new int[SYMBOLS];
            contents = heap.newRoots(SYMBOLS);
            for (int symbol = 0; symbol < SYMBOLS; symbol++) {
                heap.keep(heap.make(SYMBOL, symbol, 0, 0));
            }
            heap.keep(heap.make(TRUTH, 0, 0, 0));
            heap.keep(heap.make(TRUTH, 1, 0, 0));
            heap.keep(heap.make(EMPTY, 0, 0, 0));
            heap.keep(heap.make(NOTHING, 0, 0, 0));
            for (int symbol = FIRST_PRIMITIVE; symbol <= LAST_PRIMITIVE; symbol++) {
                heap.keep(heap.make(PRIMITIVE, symbol, 0, 0));
                meanings[symbol] = VARIABLE;
                contents.put(symbol, PRIMITIVE_CELLS + symbol);
            }
            for (int symbol = QUOTE_SYMBOL; symbol <= SYNTAX_SYMBOL; symbol++) {
                meanings[symbol] = KEYWORD;
            }
        }

        boolean has(int datum) {
            return datum >= 0 && datum < count;
        }

        int cellOf(int datum) {
            return has(datum) && datum < cells.length ? cells[datum] : 0;
        }

        /** Gives a cell that is no pair the next number; -1 if there is none left. */
        int lay(int cell) {
            return layParts(cell, -1, -1);
        }

        /** The number of a new pair; -1 if it would be too many, too deep or too large. */
        int layPair(int first, int rest) {
            int cell = count < MAX_DATA ? pairOf(cellOf(first), cellOf(rest), MAX_LAID_DEPTH) : 0;
            return layParts(cell, first, rest);
        }

        private int layParts(int cell, int first, int rest) {
            if (cell == 0 || count < 0 || count >= MAX_DATA) {
                return -1;
            }
            heap.keep(cell);
            cells[count] = cell;
            firsts[count] = first;
            rests[count] = rest;
            count++;
            return count - 1;
        }

        int partOf(int datum, boolean isFirst) {
            if (!has(datum) || datum >= MAX_DATA) {
                return -1;
            }
            return isFirst ? firsts[datum] : rests[datum];
        }

        long amountOf(int datum) {
            return heap.at(cellOf(datum), AMOUNT);
        }

        int firstFieldOf(int cell) {
            return heap.at(cell, AMOUNT);
        }

        double quotientOf(int datum) {
            int denominator = heap.at(cellOf(datum), DENOMINATOR);
            return denominator == 0 ? 0.0 : (double) heap.at(cellOf(datum), AMOUNT) / (double) denominator;
        }

        char letterOf(int cell) {
            switch (heap.kindOf(cell)) {
                case NUMBER:
                    return 'n';
                case SYMBOL:
                case RENAMED:
                    return 's';
                case TRUTH:
                    return 't';
                case EMPTY:
                    return 'e';
                case PAIR:
                    return 'p';
                case CLOSURE:
                    return 'c';
                case PRIMITIVE:
                    return 'f';
                case CONTINUATION:
                    return 'k';
                default:
                    return 'u';
            }
        }

        boolean areDataSound() {
            for (int datum = 0; datum < count && datum < MAX_DATA; datum++) {
                int cell = cells[datum];
                int cellKind = heap.kindOf(cell);
                if (cellKind == NUMBER && !isInLowestTerms(heap.at(cell, AMOUNT), heap.at(cell, DENOMINATOR))) {
                    return false;
                }
                if (cellKind == PAIR && !arePartsLower(datum)) {
                    return false;
                }
            }
            return true;
        }

        private boolean arePartsLower(int datum) {
            int first = partOf(datum, true);
            int rest = partOf(datum, false);
            return first >= 0 && first < datum && rest >= 0 && rest < datum;
        }

        private static boolean isInLowestTerms(int numerator, int denominator) {
            return denominator >= 1
                    && denominator <= MAX_AMOUNT
                    && numerator >= -MAX_AMOUNT
                    && numerator <= MAX_AMOUNT
                    && commonDivisor(numerator, denominator) == 1;
        }

        /** The greatest common divisor of two numbers that are not both 0. */
        private static long commonDivisor(long one, long other) {
            long a = one < 0 ? -one : one;
            long b = other < 0 ? -other : other;
            for (int i = 0; i < 200 && b != 0; i++) {
                long remainder = a % b;
                a = b;
                b = remainder;
            }
            return a == 0 ? 1 : a;
        }

        /** Whether there is such a number, in lowest terms, and it is in range. */
        static boolean fits(long numerator, long denominator) {
            if (denominator == 0) {
                return false;
            }
            long divisor = commonDivisor(numerator, denominator);
            long top = numerator / divisor;
            long bottom = denominator / divisor;
            return top >= -MAX_AMOUNT && top <= MAX_AMOUNT && bottom >= -MAX_AMOUNT && bottom <= MAX_AMOUNT;
        }

        /** A new number in lowest terms; 0 if there is none or it is out of range. */
        int fraction(long numerator, long denominator) {
            if (denominator == 0) {
                return 0;
            }
            long divisor = commonDivisor(numerator, denominator);
            long signed = denominator < 0 ? -divisor : divisor;
            long top = numerator / signed;
            long bottom = denominator / signed;
            if (top < -MAX_AMOUNT || top > MAX_AMOUNT || bottom > MAX_AMOUNT) {
                return 0;
            }
            return heap.make(NUMBER, (int) top, (int) bottom, 0);
        }

        int measureOf(int cell) {
            switch (heap.kindOf(cell)) {
                case PAIR:
                    return heap.at(cell, MEASURE);
                case RENAMED:
                    return MEASURE_OF_ONE | RENAMED_INSIDE;
                default:
                    return MEASURE_OF_ONE;
            }
        }

        /** A new pair with its measure; 0 if it would be too deep or too large. */
        int pairOf(int first, int rest, int deepest) {
            int one = measureOf(first);
            int other = measureOf(rest);
            int size = (one & SIZE_MASK) + (other & SIZE_MASK) + 1;
            int depth = Math.max((one >> DEPTH_SHIFT & DEPTH_MASK) + 1, other >> DEPTH_SHIFT & DEPTH_MASK);
            if (size > MAX_SIZE || depth > deepest) {
                return 0;
            }
            return heap.make(PAIR, first, rest, (one | other) & RENAMED_INSIDE | depth << DEPTH_SHIFT | size);
        }

        boolean isName(int cell) {
            int cellKind = heap.kindOf(cell);
            return cellKind == SYMBOL || cellKind == RENAMED;
        }

        /** The symbol of a name; -1 if it is none. */
        int symbolOf(int cell) {
            int name = cell;
            for (int i = 0; i < MAX_CELLS && heap.kindOf(name) == RENAMED; i++) {
                name = heap.at(name, UNDER);
            }
            return heap.kindOf(name) == SYMBOL ? heap.at(name, AMOUNT) : -1;
        }

        /** The first cell of a row whose item is the same name as this one; 0 if there is none. */
        int find(int name, int row) {
            int cell = row;
            for (int i = 0; i < MAX_CELLS && cell != 0; i++) {
                int a = heap.at(cell, ITEM);
                int b = name;
                for (int j = 0;
                        j < MAX_CELLS
                                && a != b
                                && heap.kindOf(a) == RENAMED
                                && heap.kindOf(b) == RENAMED
                                && heap.at(a, STAMP) == heap.at(b, STAMP);
                        j++) {
                    a = heap.at(a, UNDER);
                    b = heap.at(b, UNDER);
                }
                if (a == b) {
                    return cell;
                }
                cell = heap.at(cell, NEXT);
            }
            return 0;
        }

        /** The number of parts of a list; -1 if it does not end with the empty list. */
        int lengthOf(int list) {
            int length = 0;
            int cell = list;
            for (int i = 0; i < MAX_CELLS && heap.kindOf(cell) == PAIR; i++) {
                cell = heap.at(cell, REST);
                length++;
            }
            return heap.kindOf(cell) == EMPTY ? length : -1;
        }

        /** Whether the primitive 21 holds. */
        boolean areSame(int cell, int other) {
            if (cell == other) {
                return true;
            }
            return heap.kindOf(cell) == NUMBER
                    && heap.kindOf(other) == NUMBER
                    && heap.at(cell, AMOUNT) == heap.at(other, AMOUNT)
                    && heap.at(cell, DENOMINATOR) == heap.at(other, DENOMINATOR);
        }

        boolean areShapedAlike(int cell, int other) {
            return haveOneShape(cell, other, 0);
        }

        private boolean haveOneShape(int cell, int other, int level) {
            int a = cell;
            int b = other;
            for (int i = 0; i < MAX_SIZE && heap.kindOf(a) == PAIR && heap.kindOf(b) == PAIR; i++) {
                boolean areFirstsAlike =
                        level < MAX_LEVEL && haveOneShape(heap.at(a, FIRST), heap.at(b, FIRST), level + 1);
                if (!areFirstsAlike) {
                    return false;
                }
                a = heap.at(a, REST);
                b = heap.at(b, REST);
            }
            return areSame(a, b);
        }

        int meaningOf(int symbol) {
            return symbol >= 0 && symbol < meanings.length ? meanings[symbol] : UNKNOWN;
        }

        /** The value of a global variable; 0 if there is none. */
        int globalValue(int symbol) {
            return meaningOf(symbol) == VARIABLE ? contents.get(symbol) : 0;
        }

        /** The literals and rules of a macro; 0 if it is none. */
        int rulesOf(int symbol) {
            return meaningOf(symbol) == MACRO ? contents.get(symbol) : 0;
        }

        void define(int symbol, int newMeaning, int content) {
            if (symbol >= 0 && symbol < meanings.length) {
                meanings[symbol] = newMeaning;
                contents.put(symbol, content);
            }
        }
    }

    /** The text, and data and expanded programs written into it; what would be too long leaves it as it was. */
    private static final class Writer {
        // What is still to be written: a datum, what follows behind a part of a list, code, code behind a part, ")".
        private static final int DATUM = 0;
        private static final int TAIL = 1;
        private static final int FORM = 2;
        private static final int FORMS = 3;
        private static final int CLOSE = 4;
        private static final int MAX_JOBS = 2048;

        private final Heap heap;
        private final char[] text;
        int length;
        private final char[] draft;
        private int drafted;
        private final Row jobs;
        private final Row subjects;
        private int waiting;

        Writer(Heap heap) {
            this.heap = heap;
            text = new char[MAX_TEXT];
            draft = new char[MAX_TEXT];
            jobs = new Row(MAX_JOBS);
            subjects = new Row(MAX_JOBS);
        }

        char signAt(int index) {
            return index >= 0 && index < length && index < text.length ? text[index] : ' ';
        }

        int append(char sign) {
            if (length >= 0 && length < text.length) {
                text[length] = sign;
                length++;
            }
            return length;
        }

        int forget() {
            int before = length;
            length = 0;
            return before;
        }

        int putDatum(int cell) {
            return putAll(DATUM, cell);
        }

        int putProgram(int code) {
            return putAll(FORM, code);
        }

        /** The length of the text that has been written; -1 if it would be too long. */
        private int putAll(int job, int subject) {
            drafted = 0;
            waiting = 0;
            later(job, subject);
            for (int i = 0; i < MAX_CELLS && waiting > 0 && drafted <= MAX_TEXT; i++) {
                waiting--;
                int next = subjects.get(waiting);
                switch (jobs.get(waiting)) {
                    case DATUM:
                        startDatum(next);
                        break;
                    case TAIL:
                        putTail(next);
                        break;
                    case FORM:
                        startForm(next);
                        break;
                    case FORMS:
                        putForms(next);
                        break;
                    default:
                        put(')');
                }
            }
            if (drafted > MAX_TEXT) {
                return -1;
            }
            System.arraycopy(draft, 0, text, 0, drafted);
            length = drafted;
            return length;
        }

        private void later(int job, int subject) {
            jobs.put(waiting, job);
            subjects.put(waiting, subject);
            waiting++;
        }

        private void put(char sign) {
            if (drafted >= 0 && drafted < draft.length) {
                draft[drafted] = sign;
            }
            drafted++;
        }

        private void putWord(String word) {
            for (int i = 0; i < word.length(); i++) {
                put(word.charAt(i));
            }
        }

        private void putNumber(int number) {
            long rest = number;
            if (rest < 0) {
                put('-');
                rest = -rest;
            }
            boolean isBegun = false;
            for (long unit = 1000000000L; unit >= 1; unit /= 10) {
                long digit = rest / unit % 10;
                isBegun = isBegun || digit != 0 || unit == 1;
                if (isBegun) {
                    put((char) ('0' + digit));
                }
            }
        }

        private void startDatum(int cell) {
            switch (heap.kindOf(cell)) {
                case NUMBER:
                    putNumber(heap.at(cell, AMOUNT));
                    if (heap.at(cell, DENOMINATOR) != 1) {
                        put('/');
                        putNumber(heap.at(cell, DENOMINATOR));
                    }
                    break;
                case SYMBOL:
                    put('s');
                    putNumber(heap.at(cell, AMOUNT));
                    break;
                case TRUTH:
                    putWord(cell == TRUE_CELL ? "#t" : "#f");
                    break;
                case EMPTY:
                    putWord("()");
                    break;
                case PAIR:
                    put('(');
                    later(TAIL, heap.at(cell, REST));
                    later(DATUM, heap.at(cell, FIRST));
                    break;
                case CLOSURE:
                    putWord("#c");
                    break;
                case PRIMITIVE:
                    putWord("#p");
                    putNumber(heap.at(cell, AMOUNT));
                    break;
                case CONTINUATION:
                    putWord("#k");
                    break;
                default:
                    putWord("#u");
            }
        }

        private void putTail(int cell) {
            int cellKind = heap.kindOf(cell);
            if (cellKind == EMPTY) {
                put(')');
            } else if (cellKind == PAIR) {
                put(' ');
                later(TAIL, heap.at(cell, REST));
                later(DATUM, heap.at(cell, FIRST));
            } else {
                putWord(" . ");
                later(CLOSE, 0);
                later(DATUM, cell);
            }
        }

        private void putForms(int forms) {
            if (forms == 0) {
                put(')');
            } else {
                put(' ');
                later(FORMS, heap.at(forms, NEXT));
                later(FORM, heap.at(forms, ITEM));
            }
        }

        private void startForm(int code) {
            int info = heap.at(code, INFO);
            int parts = heap.at(code, PARTS);
            switch (heap.kindOf(code)) {
                case ITSELF:
                    later(DATUM, info);
                    break;
                case QUOTED:
                    putWord("(quote ");
                    later(CLOSE, 0);
                    later(DATUM, info);
                    break;
                case LOCAL:
                    put('x');
                    putNumber(heap.at(code, PLACE));
                    break;
                case GLOBAL:
                    put('s');
                    putNumber(info);
                    break;
                case SYNTAX:
                    putWord("(define-syntax ");
                    put('s');
                    putNumber(info);
                    put(')');
                    break;
                case CALL:
                    put('(');
                    later(FORMS, heap.at(parts, NEXT));
                    later(FORM, heap.at(parts, ITEM));
                    break;
                default:
                    putKeyword(code);
                    later(FORMS, parts);
            }
        }

        /** Begins a form of a keyword, as far as its parts that are forms. */
        private void putKeyword(int code) {
            int info = heap.at(code, INFO);
            int place = heap.at(code, PLACE);
            switch (heap.kindOf(code)) {
                case LAMBDA:
                    putWord("(lambda ");
                    putParameters(info >> 1, (info & 1) != 0, place);
                    break;
                case BRANCH:
                    putWord("(if");
                    break;
                case SET_LOCAL:
                    putWord("(set ");
                    put('x');
                    putNumber(place);
                    break;
                case SET_GLOBAL:
                    putWord("(set ");
                    put('s');
                    putNumber(info);
                    break;
                case DEFINITION:
                    putWord("(define ");
                    put('s');
                    putNumber(info);
                    break;
                default:
                    putWord("(begin");
            }
        }

        private void putParameters(int parameters, boolean hasRest, int place) {
            if (parameters == 0 && hasRest) {
                put('x');
                putNumber(place);
                return;
            }
            put('(');
            for (int i = 0; i < parameters && drafted <= MAX_TEXT; i++) {
                if (i > 0) {
                    put(' ');
                }
                put('x');
                putNumber(place + i);
            }
            if (hasRest) {
                putWord(" . ");
                put('x');
                putNumber(place + parameters);
            }
            put(')');
        }
    }

    /** Takes the text apart, looks whether it is one datum, and lays it. */
    private static final class Reader {
        private static final int MAX_DIGITS = 18;

        // The pieces: '(', ')', '.', 'n' a number, 's' a symbol, 't' a truth.
        private final char[] pieces;
        private final long[] tops;
        private final long[] bottoms;
        private int pieceCount;
        int needed;
        // The lists that are open: how far each one is, the depth of its parts, where its parts begin.
        private final Row stages;
        private final Row depths;
        private final Row parts;
        private int open;

        Reader() {
            pieces = new char[MAX_TEXT];
            tops = new long[MAX_TEXT];
            bottoms = new long[MAX_TEXT];
            stages = new Row(MAX_TEXT + 1);
            depths = new Row(MAX_TEXT + 1);
            parts = new Row(MAX_TEXT + 1);
        }

        /** Whether the text is one datum that is not too deep; then needed is how many data it would lay. */
        boolean takes(Writer text) {
            return isSplit(text) && isOneDatum();
        }

        private boolean isSplit(Writer text) {
            pieceCount = 0;
            int index = 0;
            for (int i = 0; i < MAX_TEXT && index < text.length; i++) {
                char sign = text.signAt(index);
                int end = index + 1;
                if (sign == '(' || sign == ')') {
                    addPiece(sign, 0, 1);
                } else if (sign != ' ') {
                    end = endOfPiece(text, index);
                    if (!isPiece(text, index, end)) {
                        return false;
                    }
                }
                index = end;
            }
            return true;
        }

        private static int endOfPiece(Writer text, int start) {
            for (int i = start; i < text.length; i++) {
                char sign = text.signAt(i);
                if (sign == ' ' || sign == '(' || sign == ')') {
                    return i;
                }
            }
            return text.length;
        }

        private void addPiece(char piece, long top, long bottom) {
            if (pieceCount >= 0 && pieceCount < MAX_TEXT) {
                pieces[pieceCount] = piece;
                tops[pieceCount] = top;
                bottoms[pieceCount] = bottom;
                pieceCount++;
            }
        }

        private boolean isPiece(Writer text, int start, int end) {
            char sign = text.signAt(start);
            if (sign == '.') {
                addPiece('.', 0, 1);
                return end == start + 1;
            }
            if (sign == '#') {
                char letter = end == start + 2 ? text.signAt(start + 1) : ' ';
                addPiece('t', letter == 't' ? 1 : 0, 1);
                return letter == 't' || letter == 'f';
            }
            if (sign == 's') {
                long symbol = digits(text, start + 1, end);
                addPiece('s', symbol, 1);
                return symbol >= 0 && symbol < SYMBOLS;
            }
            return isNumber(text, start, end);
        }

        private boolean isNumber(Writer text, int start, int end) {
            boolean isNegative = text.signAt(start) == '-';
            int slash = end;
            for (int i = end - 1; i >= start; i--) {
                if (text.signAt(i) == '/') {
                    slash = i;
                }
            }
            long top = digits(text, isNegative ? start + 1 : start, slash);
            long bottom = slash == end ? 1 : digits(text, slash + 1, end);
            if (top < 0 || bottom < 0) {
                return false;
            }
            addPiece('n', isNegative ? -top : top, bottom);
            return Store.fits(top, bottom);
        }

        /** The number that 1 to 18 digits are; -1 if they are none. */
        private static long digits(Writer text, int start, int end) {
            if (end <= start || end - start > MAX_DIGITS) {
                return -1;
            }
            long number = 0;
            for (int i = start; i < end; i++) {
                char sign = text.signAt(i);
                if (sign < '0' || sign > '9') {
                    return -1;
                }
                number = number * 10 + (sign - '0');
            }
            return number;
        }

        // The stages of an open list: 0 without parts, 1 with parts, 2 behind a point, 3 behind what ends it.
        // At the bottom lies the whole text: it is at stage 2 as long as its one datum is missing.
        private boolean isOneDatum() {
            open = 0;
            needed = 0;
            stages.put(0, 2);
            for (int i = 0; i < pieceCount && i < MAX_TEXT; i++) {
                boolean isRight;
                switch (pieces[i]) {
                    case '(':
                        open++;
                        stages.put(open, 0);
                        depths.put(open, 1);
                        isRight = true;
                        break;
                    case ')':
                        isRight = closes();
                        break;
                    case '.':
                        isRight = stages.get(open) == 1;
                        stages.put(open, 2);
                        break;
                    default:
                        needed++;
                        isRight = takesPart(1);
                }
                if (!isRight) {
                    return false;
                }
            }
            return open == 0 && stages.get(0) == 3;
        }

        private boolean takesPart(int depth) {
            int stage = stages.get(open);
            boolean isEnd = stage == 2;
            stages.put(open, isEnd ? 3 : 1);
            depths.put(open, Math.max(depths.get(open), isEnd ? depth : depth + 1));
            if (!isEnd) {
                needed++;
            }
            return stage != 3 && depth <= MAX_LAID_DEPTH;
        }

        private boolean closes() {
            int stage = stages.get(open);
            if (open == 0 || stage == 2) {
                return false;
            }
            if (stage != 3) {
                needed++;
            }
            int depth = depths.get(open);
            open--;
            return takesPart(depth);
        }

        /** Lays the datum that was looked at; its number, or -1 if there is no room. */
        int layAll(Store store) {
            open = 0;
            int top = 0;
            for (int i = 0; i < pieceCount && i < MAX_TEXT; i++) {
                switch (pieces[i]) {
                    case '(':
                        open++;
                        stages.put(open, 0);
                        depths.put(open, top);
                        break;
                    case ')':
                        int start = depths.get(open);
                        parts.put(start, layList(store, start, top));
                        top = start + 1;
                        open--;
                        break;
                    case '.':
                        stages.put(open, 2);
                        break;
                    default:
                        parts.put(top, layPiece(store, i));
                        top++;
                }
            }
            return parts.get(0);
        }

        private int layList(Store store, int start, int top) {
            boolean isDotted = stages.get(open) == 2;
            int last = isDotted ? top - 1 : top;
            int list = isDotted ? parts.get(last) : store.lay(EMPTY_CELL);
            for (int i = last - 1; i >= start; i--) {
                list = store.layPair(parts.get(i), list);
            }
            return list;
        }

        private int layPiece(Store store, int index) {
            if (index < 0 || index >= MAX_TEXT) {
                return -1;
            }
            long top = tops[index];
            switch (pieces[index]) {
                case 's':
                    return store.lay(FIRST_SYMBOL_CELL + (int) top);
                case 't':
                    return store.lay(top == 1 ? TRUE_CELL : FALSE_CELL);
                default:
                    return store.lay(store.fraction(top, bottoms[index]));
            }
        }
    }

    /** The patterns of macros: whether they are right, and what they match. */
    private static final class Patterns {
        private final Heap heap;
        private final Store store;
        private long literals;
        private int scope;
        int matches;

        Patterns(Heap heap, Store store) {
            this.heap = heap;
            this.store = store;
        }

        /** Whether this is a list of literals and of rules with right patterns. */
        boolean areRules(int definition) {
            if (heap.kindOf(definition) != PAIR || !areLiterals(heap.at(definition, FIRST))) {
                return false;
            }
            int rules = heap.at(definition, REST);
            for (int i = 0; i < MAX_SIZE && heap.kindOf(rules) == PAIR; i++) {
                int rule = heap.at(rules, FIRST);
                int pattern = heap.at(rule, FIRST);
                matches = 0;
                if (store.lengthOf(rule) != 2
                        || heap.kindOf(pattern) != PAIR
                        || !collects(heap.at(pattern, REST), 0)) {
                    return false;
                }
                rules = heap.at(rules, REST);
            }
            return true;
        }

        /** Whether this is a list of names; they become the literals. */
        private boolean areLiterals(int list) {
            literals = 0;
            int cell = list;
            for (int i = 0; i < MAX_SIZE && heap.kindOf(cell) == PAIR; i++) {
                int symbol = store.symbolOf(heap.at(cell, FIRST));
                if (symbol < 0) {
                    return false;
                }
                literals |= 1L << symbol;
                cell = heap.at(cell, REST);
            }
            return heap.kindOf(cell) == EMPTY;
        }

        private boolean isLiteral(int symbol) {
            return symbol >= 0 && (literals >> symbol & 1) != 0;
        }

        private boolean isRowEnd(int cell) {
            return heap.kindOf(cell) == PAIR
                    && heap.kindOf(heap.at(cell, REST)) == EMPTY
                    && store.symbolOf(heap.at(cell, FIRST)) == ELLIPSIS_SYMBOL;
        }

        /** Puts each variable of a pattern, with an empty row, ahead of the matches; whether the pattern is right. */
        private boolean collects(int pattern, int level) {
            if (level > MAX_LEVEL) {
                return false;
            }
            int cell = pattern;
            for (int i = 0; i < MAX_SIZE && heap.kindOf(cell) == PAIR; i++) {
                if (!collects(heap.at(cell, FIRST), level + 1)) {
                    return false;
                }
                cell = heap.at(cell, REST);
                if (isRowEnd(cell)) {
                    return true;
                }
            }
            int symbol = store.symbolOf(cell);
            if (symbol < 0 || symbol == BLANK_SYMBOL || isLiteral(symbol)) {
                return true;
            }
            if (symbol == ELLIPSIS_SYMBOL || store.find(cell, matches) != 0) {
                return false;
            }
            matches = heap.make(MATCH, cell, matches, heap.make(ROW, 0, 0, 0));
            return true;
        }

        /** The template of the first rule that fits; 0 if there is none. Then matches are its variables. */
        int fittingTemplate(int definition, int form, int scopeOfForm) {
            if (!areLiterals(heap.at(definition, FIRST))) {
                return 0;
            }
            scope = scopeOfForm;
            int rules = heap.at(definition, REST);
            for (int i = 0; i < MAX_SIZE && heap.kindOf(rules) == PAIR; i++) {
                int rule = heap.at(rules, FIRST);
                matches = 0;
                if (isMatch(heap.at(heap.at(rule, FIRST), REST), heap.at(form, REST), 0)) {
                    return heap.at(heap.at(rule, REST), FIRST);
                }
                rules = heap.at(rules, REST);
            }
            return 0;
        }

        private boolean isMatch(int pattern, int form, int level) {
            if (level > MAX_LEVEL) {
                return false;
            }
            int cell = pattern;
            int part = form;
            for (int i = 0; i < MAX_SIZE && heap.kindOf(cell) == PAIR; i++) {
                int item = heap.at(cell, FIRST);
                cell = heap.at(cell, REST);
                if (isRowEnd(cell)) {
                    // Each part of the list is matched by itself; the variables get rows of what they match.
                    int around = matches;
                    matches = 0;
                    boolean isRight = collects(item, level + 1);
                    int rows = matches;
                    for (int j = 0; j < MAX_SIZE && isRight && heap.kindOf(part) == PAIR; j++) {
                        matches = 0;
                        isRight = isMatch(item, heap.at(part, FIRST), level + 1);
                        addItems(rows);
                        part = heap.at(part, REST);
                    }
                    matches = joined(rows, around);
                    return isRight && heap.kindOf(part) == EMPTY;
                }
                if (heap.kindOf(part) != PAIR || !isMatch(item, heap.at(part, FIRST), level + 1)) {
                    return false;
                }
                part = heap.at(part, REST);
            }
            return isPlainMatch(cell, part);
        }

        /** Whether a pattern that is no pair matches. */
        private boolean isPlainMatch(int pattern, int part) {
            int symbol = store.symbolOf(pattern);
            if (symbol < 0) {
                return store.areSame(pattern, part);
            }
            if (symbol == BLANK_SYMBOL) {
                return true;
            }
            if (isLiteral(symbol)) {
                return store.symbolOf(part) == symbol && store.find(part, scope) == 0;
            }
            matches = heap.make(MATCH, pattern, matches, part);
            return true;
        }

        // The variables stand in the same order in the rows and in the matches, as both come from one pattern.
        private void addItems(int rows) {
            int match = matches;
            int named = rows;
            for (int i = 0; i < MAX_SIZE && match != 0 && named != 0; i++) {
                int row = heap.at(named, EXTRA);
                int link = heap.make(LINK, heap.at(match, EXTRA), 0, 0);
                if (heap.at(row, ITEM) == 0) {
                    heap.put(row, ITEM, link);
                } else {
                    heap.put(heap.at(row, NEXT), NEXT, link);
                }
                heap.put(row, NEXT, link);
                heap.put(row, EXTRA, heap.at(row, EXTRA) + 1);
                match = heap.at(match, NEXT);
                named = heap.at(named, NEXT);
            }
        }

        private int joined(int rows, int around) {
            if (rows == 0) {
                return around;
            }
            int last = rows;
            for (int i = 0; i < MAX_SIZE && heap.at(last, NEXT) != 0; i++) {
                last = heap.at(last, NEXT);
            }
            heap.put(last, NEXT, around);
            return rows;
        }
    }

    /** The templates of macros: what they come to. */
    private static final class Templates {
        private final Heap heap;
        private final Store store;
        private int stamp;
        private int size;
        private int rows;
        private int rowLength;
        private boolean areRowsEven;

        Templates(Heap heap, Store store) {
            this.heap = heap;
            this.store = store;
        }

        /** What a template comes to, by a new mark; 0 if it is wrong. */
        int filled(int template, int matches) {
            stamp++;
            size = 0;
            return build(template, matches, 0);
        }

        private int build(int template, int matches, int level) {
            if (level > MAX_LEVEL) {
                return 0;
            }
            int parts = 0;
            int cell = template;
            for (int i = 0; i < MAX_SIZE && heap.kindOf(cell) == PAIR; i++) {
                int part = heap.at(cell, FIRST);
                cell = heap.at(cell, REST);
                if (isEllipsisAhead(cell)) {
                    cell = heap.at(cell, REST);
                    parts = buildRow(part, matches, parts, level + 1);
                } else {
                    parts = added(build(part, matches, level + 1), parts);
                }
                if (parts < 0) {
                    return 0;
                }
            }
            int whole = leaf(cell, matches);
            for (int i = 0; i < MAX_SIZE && parts != 0 && whole != 0; i++) {
                whole = store.pairOf(heap.at(parts, ITEM), whole, MAX_MADE_DEPTH);
                parts = heap.at(parts, NEXT);
            }
            return whole;
        }

        private boolean isEllipsisAhead(int cell) {
            return heap.kindOf(cell) == PAIR && store.symbolOf(heap.at(cell, FIRST)) == ELLIPSIS_SYMBOL;
        }

        /** The parts with one more; -1 if it is wrong or there is too much of it. */
        private int added(int part, int parts) {
            size++;
            return part == 0 || size > MAX_SIZE ? -1 : heap.make(LINK, part, parts, 0);
        }

        private int leaf(int cell, int matches) {
            int made = cell;
            if (store.isName(cell)) {
                int match = store.find(cell, matches);
                made = match != 0 ? heap.at(match, EXTRA) : heap.make(RENAMED, cell, stamp, 0);
            }
            size += store.measureOf(made) & SIZE_MASK;
            return heap.kindOf(made) == ROW || size > MAX_SIZE ? 0 : made;
        }

        /** The parts with those that a template comes to for the items of its rows; -1 if that is wrong. */
        private int buildRow(int template, int matches, int before, int level) {
            rows = 0;
            areRowsEven = true;
            addRows(template, matches, level);
            int named = rows;
            if (named == 0 || !areRowsEven) {
                return -1;
            }
            int count = rowLength;
            int parts = before;
            for (int i = 0; i < count && parts >= 0; i++) {
                parts = added(build(template, withItems(named, matches), level), parts);
            }
            return parts;
        }

        /** The matches with the next item of each row ahead of them. */
        private int withItems(int named, int matches) {
            int inner = matches;
            int row = named;
            for (int i = 0; i < MAX_SIZE && row != 0; i++) {
                int link = heap.at(row, EXTRA);
                inner = heap.make(MATCH, heap.at(row, ITEM), inner, heap.at(link, ITEM));
                heap.put(row, EXTRA, heap.at(link, NEXT));
                row = heap.at(row, NEXT);
            }
            return inner;
        }

        /** Puts the variables in a template that are rows ahead of the rows, each with its first link. */
        private void addRows(int template, int matches, int level) {
            int cell = template;
            for (int i = 0; i < MAX_SIZE && heap.kindOf(cell) == PAIR && level <= MAX_LEVEL; i++) {
                addRows(heap.at(cell, FIRST), matches, level + 1);
                cell = heap.at(cell, REST);
            }
            int row = store.isName(cell) ? heap.at(store.find(cell, matches), EXTRA) : 0;
            if (heap.kindOf(row) == ROW && store.find(cell, rows) == 0) {
                int length = heap.at(row, EXTRA);
                areRowsEven = areRowsEven && (rows == 0 || rowLength == length);
                rowLength = length;
                rows = heap.make(MATCH, cell, rows, heap.at(row, ITEM));
            }
        }
    }

    /** Makes code of programs. The forms that are around the one at hand are a stack, one level for each. */
    private static final class Expander {
        private static final int LEVELS = 104;

        private final Heap heap;
        private final Store store;
        private final Patterns patterns;
        private final Templates templates;
        // For each level: the forms that are still to be expanded, the names that are bound there, the code or link
        // behind which the next one is put, and what came out of a macro in place of the form at hand.
        private final Row lists;
        private final Row scopes;
        private final Row tails;
        private final Row outcomes;
        private int level;
        int used;
        private int variables;

        Expander(Heap heap, Store store) {
            this.heap = heap;
            this.store = store;
            patterns = new Patterns(heap, store);
            templates = new Templates(heap, store);
            lists = heap.newRoots(LEVELS);
            scopes = heap.newRoots(LEVELS);
            tails = heap.newRoots(LEVELS);
            outcomes = heap.newRoots(LEVELS);
        }

        /** The code of a program; 0 if it is wrong. Then used tells how many expansions of macros there were. */
        int expand(int program) {
            used = 0;
            variables = 0;
            level = -1;
            open(EMPTY_CELL, 0, heap.make(LINK, 0, 0, 0));
            outcomes.put(0, program);
            boolean isRight = true;
            for (int i = 0; i < MAX_STEPS && isRight && level >= 0; i++) {
                if (heap.isDue()) {
                    heap.collect();
                }
                int here = level;
                int form = nextForm();
                int symbol = keywordOrMacro(form);
                if (form == 0) {
                    level--;
                } else if (store.meaningOf(symbol) == MACRO) {
                    int template = patterns.fittingTemplate(store.rulesOf(symbol), form, scopes.get(here));
                    isRight = template != 0 && used < MAX_EXPANSIONS;
                    used += isRight ? 1 : 0;
                    int outcome = isRight ? templates.filled(template, patterns.matches) : 0;
                    outcomes.put(here, outcome);
                    isRight = outcome != 0;
                } else {
                    int code = symbol >= 0 ? keywordForm(symbol, form) : plainForm(form);
                    isRight = code != 0;
                    int link = heap.make(LINK, code, 0, 0);
                    heap.put(tails.get(here), PARTS, link);
                    tails.put(here, link);
                }
            }
            return isRight ? heap.at(tails.get(0), ITEM) : 0;
        }

        private void open(int forms, int scope, int tail) {
            level++;
            lists.put(level, forms);
            scopes.put(level, scope);
            tails.put(level, tail);
            outcomes.put(level, 0);
        }

        /** The next form of the level; 0 if there is none. */
        private int nextForm() {
            int outcome = outcomes.get(level);
            if (outcome != 0) {
                outcomes.put(level, 0);
                return outcome;
            }
            int list = lists.get(level);
            if (heap.kindOf(list) != PAIR) {
                return 0;
            }
            lists.put(level, heap.at(list, REST));
            return heap.at(list, FIRST);
        }

        /** The symbol of the first part of a list, if it is a global name and a keyword or a macro; otherwise -1. */
        private int keywordOrMacro(int form) {
            if (heap.kindOf(form) != PAIR || store.lengthOf(form) < 0) {
                return -1;
            }
            int head = heap.at(form, FIRST);
            int symbol = store.find(head, scopes.get(level)) == 0 ? store.symbolOf(head) : -1;
            int meaning = store.meaningOf(symbol);
            return meaning == KEYWORD || meaning == MACRO ? symbol : -1;
        }

        /** The code of a form without a keyword, while its parts are still to be expanded; 0 if it is wrong. */
        private int plainForm(int form) {
            int formKind = heap.kindOf(form);
            if (formKind == NUMBER || formKind == TRUTH) {
                return heap.make(ITSELF, form, 0, 0);
            }
            if (formKind == PAIR && store.lengthOf(form) >= 0) {
                return around(CALL, 0, form, scopes.get(level), 0);
            }
            return store.isName(form) ? variable(form) : 0;
        }

        private int variable(int name) {
            int scope = scopes.get(level);
            int bound = store.find(name, scope);
            if (bound != 0) {
                int inside = 0;
                for (int i = 0; i < MAX_CELLS && scope != bound; i++) {
                    scope = heap.at(scope, NEXT);
                    inside++;
                }
                return heap.make(LOCAL, inside, 0, heap.at(bound, PLACE));
            }
            int symbol = store.symbolOf(name);
            int meaning = store.meaningOf(symbol);
            return meaning == KEYWORD || meaning == MACRO ? 0 : heap.make(GLOBAL, symbol, 0, 0);
        }

        /** Code around forms; 0 if they would be within too many others. */
        private int around(int codeKind, int info, int forms, int scope, int place) {
            if (level >= MAX_FORMS_AROUND) {
                return 0;
            }
            int code = heap.make(codeKind, info, 0, place);
            open(forms, scope, code);
            return code;
        }

        private int keywordForm(int keyword, int form) {
            int count = store.lengthOf(form) - 1;
            int parts = heap.at(form, REST);
            int scope = scopes.get(level);
            int first = heap.at(parts, FIRST);
            int behind = heap.at(parts, REST);
            boolean isWhole = level == 0;
            switch (keyword) {
                case QUOTE_SYMBOL:
                    return count == 1 ? heap.make(QUOTED, withoutMarks(first), 0, 0) : 0;
                case IF_SYMBOL:
                    return count == 2 || count == 3 ? around(BRANCH, 0, parts, scope, 0) : 0;
                case LAMBDA_SYMBOL:
                    return count >= 2 ? lambdaForm(first, behind) : 0;
                case DEFINE_SYMBOL:
                    return count == 2 && isWhole && store.isName(first)
                            ? around(DEFINITION, store.symbolOf(first), behind, scope, 0)
                            : 0;
                case SET_SYMBOL:
                    return count == 2 && store.isName(first) ? setForm(variable(first), behind) : 0;
                case BEGIN_SYMBOL:
                    return count >= 1 ? around(SEQUENCE, 0, parts, scope, 0) : 0;
                default:
                    return count >= 2 && isWhole && store.isName(first) && patterns.areRules(behind)
                            ? heap.make(SYNTAX, store.symbolOf(first), behind, 0)
                            : 0;
            }
        }

        private int setForm(int variable, int forms) {
            if (variable == 0) {
                return 0;
            }
            int codeKind = heap.kindOf(variable) == LOCAL ? SET_LOCAL : SET_GLOBAL;
            return around(codeKind, heap.at(variable, INFO), forms, scopes.get(level), heap.at(variable, PLACE));
        }

        private int lambdaForm(int parameters, int body) {
            int names = 0;
            int count = 0;
            int cell = parameters;
            for (int i = 0; i < MAX_SIZE && heap.kindOf(cell) == PAIR; i++) {
                int name = heap.at(cell, FIRST);
                if (!store.isName(name) || store.find(name, names) != 0) {
                    return 0;
                }
                names = heap.make(LINK, name, names, 0);
                count++;
                cell = heap.at(cell, REST);
            }
            boolean hasRest = store.isName(cell);
            if (hasRest ? store.find(cell, names) != 0 : heap.kindOf(cell) != EMPTY) {
                return 0;
            }
            // The first parameter is bound innermost, as arguments are at hand from the last one on.
            int scope = scopes.get(level);
            if (hasRest) {
                scope = heap.make(SCOPE, cell, scope, variables + count);
            }
            for (int i = count - 1; i >= 0; i--) {
                scope = heap.make(SCOPE, heap.at(names, ITEM), scope, variables + i);
                names = heap.at(names, NEXT);
            }
            int place = variables;
            variables += hasRest ? count + 1 : count;
            return around(LAMBDA, count * 2 + (hasRest ? 1 : 0), body, scope, place);
        }

        /** A quoted datum with all marks taken off; each pair with a mark in it is made anew once. */
        private int withoutMarks(int datum) {
            int anew = heap.make(LINK, 0, 0, 0);
            int plain = plainOf(datum, anew, 0);
            int link = heap.at(anew, NEXT);
            for (int i = 0; i < MAX_CELLS && link != 0; i++) {
                heap.setNote(heap.at(link, ITEM), 0);
                link = heap.at(link, NEXT);
            }
            return plain;
        }

        // A pair that has been made anew bears, until the form is done, a note of the new one.
        private int plainOf(int datum, int anew, int depth) {
            int pairs = 0;
            int cell = datum;
            for (int i = 0; i < MAX_SIZE && isToBeMadeAnew(cell); i++) {
                pairs = heap.make(LINK, cell, pairs, 0);
                cell = heap.at(cell, REST);
            }
            int plain = heap.kindOf(cell) == RENAMED ? FIRST_SYMBOL_CELL + store.symbolOf(cell) : cell;
            if (heap.kindOf(cell) == PAIR && heap.noteOf(cell) != 0) {
                plain = heap.noteOf(cell);
            }
            for (int i = 0; i < MAX_SIZE && pairs != 0 && depth <= MAX_LEVEL; i++) {
                int old = heap.at(pairs, ITEM);
                plain = heap.make(PAIR, plainOf(heap.at(old, FIRST), anew, depth + 1), plain, 0);
                heap.setNote(old, plain);
                heap.put(anew, NEXT, heap.make(LINK, old, heap.at(anew, NEXT), 0));
                pairs = heap.at(pairs, NEXT);
            }
            return plain;
        }

        private boolean isToBeMadeAnew(int cell) {
            return heap.kindOf(cell) == PAIR
                    && (heap.at(cell, MEASURE) & RENAMED_INSIDE) != 0
                    && heap.noteOf(cell) == 0;
        }
    }

    /** What has happened in all runs. */
    private static final class Counts {
        long applications;
        long applicationsOfRun;
        long applicationsOfEnded;
        int expansions;
        int entered;
        int left;
        int jumps;
        int ended;
        int endedWithValue;
        int abandoned; // winds that were entered when a run ended with an error or another one was begun
    }

    /** The primitives that come to a value at once. An answer below 0 is an error: minus its letter. */
    private static final class Primitives {
        private final Heap heap;
        private final Store store;

        Primitives(Heap heap, Store store) {
            this.heap = heap;
            this.store = store;
        }

        int answer(int symbol, int one, int other) {
            boolean isPair = heap.kindOf(one) == PAIR;
            switch (symbol) {
                case 16:
                    return heap.make(PAIR, one, other, 0);
                case 17:
                    return isPair ? heap.at(one, FIRST) : -'t';
                case 18:
                    return isPair ? heap.at(one, REST) : -'t';
                case 19:
                    return truthCell(isPair);
                case 20:
                    return truthCell(one == EMPTY_CELL);
                case 21:
                    return truthCell(store.areSame(one, other));
                default:
                    return truthCell(one == FALSE_CELL);
            }
        }

        private static int truthCell(boolean isTrue) {
            return isTrue ? TRUE_CELL : FALSE_CELL;
        }

        /** The primitives of numbers. No product of two parts in range is over 10 to the 18th: nothing wraps around. */
        int reckon(int symbol, int one, int other) {
            if (heap.kindOf(one) != NUMBER || heap.kindOf(other) != NUMBER) {
                return -'t';
            }
            long a = heap.at(one, AMOUNT);
            long b = heap.at(one, DENOMINATOR);
            long c = heap.at(other, AMOUNT);
            long d = heap.at(other, DENOMINATOR);
            int number;
            switch (symbol) {
                case 10:
                    number = store.fraction(a * d + c * b, b * d);
                    break;
                case 11:
                    number = store.fraction(a * d - c * b, b * d);
                    break;
                case 12:
                    number = store.fraction(a * c, b * d);
                    break;
                case 13:
                    if (c == 0) {
                        return -'z';
                    }
                    number = store.fraction(a * d, b * c);
                    break;
                case 14:
                    return truthCell(a * d < c * b);
                default:
                    return truthCell(a == c && b == d);
            }
            return number == 0 ? -'o' : number;
        }
    }

    /** The run at hand: code is evaluated, values go to the frame that waits for them, procedures are applied. */
    private static final class Machine {
        private static final byte[] ARGUMENTS = {2, 2, 2, 2, 2, 2, 2, 1, 1, 1, 1, 2, 1, 3, 2, 1, 2, 1, 2, 1};
        private static final int EVALUATE = 0;
        private static final int RETURN = 1;
        private static final int APPLY = 2;
        private static final int REGISTERS = 8;

        private final Heap heap;
        private final Store store;
        private final Primitives primitives;
        private final Counts counts;
        private final Row saved;
        char status; // 0 ahead of the first program
        char letter;
        private int fuel;
        private int mode;
        private int code;
        private int environment;
        int value;
        private int frames;
        private int procedure;
        private int operands; // from the last one to the first one
        private int operandCount;
        private int topWind;
        private int topHandler;

        Machine(Heap heap, Store store, Counts counts) {
            this.heap = heap;
            this.store = store;
            this.counts = counts;
            primitives = new Primitives(heap, store);
            saved = heap.newRoots(REGISTERS);
        }

        boolean isBegun() {
            return status != 0;
        }

        int countOfWinds() {
            return heap.at(heap.at(topWind, ITEM), EXTRA);
        }

        int countOfHandlers() {
            return heap.at(topHandler, EXTRA);
        }

        private int depthOf(int wind) {
            return heap.at(heap.at(wind, ITEM), EXTRA);
        }

        /** Begins with this code in place of an earlier run; with 0, which is a wrong program, it ends at once. */
        char start(int program) {
            counts.abandoned += countOfWinds();
            clearRegisters();
            counts.applicationsOfRun = 0;
            status = 'r';
            mode = EVALUATE;
            code = program;
            if (program == 0) {
                fail('x');
            }
            saveRegisters();
            return status;
        }

        char goOn(int units) {
            fuel = units;
            for (int i = 0; i < MAX_STEPS && status == 'r' && (mode != APPLY || fuel > 0); i++) {
                if (heap.isDue()) {
                    saveRegisters();
                    heap.collect();
                }
                switch (mode) {
                    case EVALUATE:
                        evaluate();
                        break;
                    case RETURN:
                        giveToFrame();
                        break;
                    default:
                        applyProcedure();
                }
                if (heap.isFull() && status == 'r') {
                    fail('o');
                    saveRegisters();
                    heap.collect();
                }
            }
            saveRegisters();
            return status;
        }

        /** Lets the heap see what the registers hold. */
        private void saveRegisters() {
            saved.put(0, code);
            saved.put(1, environment);
            saved.put(2, value);
            saved.put(3, frames);
            saved.put(4, procedure);
            saved.put(5, operands);
            saved.put(6, topWind);
            saved.put(7, topHandler);
        }

        private void clearRegisters() {
            code = 0;
            environment = 0;
            value = 0;
            frames = 0;
            procedure = 0;
            operands = 0;
            topWind = 0;
            topHandler = 0;
        }

        private void fail(char errorLetter) {
            counts.abandoned += countOfWinds();
            clearRegisters();
            end('e');
            letter = errorLetter;
        }

        private void finish() {
            int last = value;
            clearRegisters();
            end('v');
            value = last;
            counts.endedWithValue++;
        }

        private void end(char how) {
            status = how;
            counts.ended++;
            counts.applicationsOfEnded += counts.applicationsOfRun;
        }

        private void give(int answer) {
            value = answer;
            mode = RETURN;
        }

        private void evaluateLater(int newCode, int newEnvironment) {
            code = newCode;
            environment = newEnvironment;
            mode = EVALUATE;
        }

        private void push(int frameKind, int subject, int extra) {
            frames = heap.make(frameKind, subject, frames, extra);
        }

        private void evaluate() {
            int parts = heap.at(code, PARTS);
            switch (heap.kindOf(code)) {
                case BRANCH:
                    push(TEST_FRAME, heap.at(parts, NEXT), environment);
                    evaluateLater(heap.at(parts, ITEM), environment);
                    break;
                case SET_LOCAL:
                case SET_GLOBAL:
                case DEFINITION:
                    push(STORE_FRAME, code, environment);
                    evaluateLater(heap.at(parts, ITEM), environment);
                    break;
                case SYNTAX:
                    store.define(heap.at(code, INFO), MACRO, parts);
                    give(NOTHING_CELL);
                    break;
                case SEQUENCE:
                    evaluateBody(parts, environment);
                    break;
                case CALL:
                    evaluateParts(parts, 0, environment);
                    break;
                default:
                    evaluateSimple();
            }
        }

        private void evaluateSimple() {
            int answer = simpleValue(code, environment);
            if (answer == 0) {
                fail('u');
            } else {
                give(answer);
            }
        }

        private static boolean isSimple(int codeKind) {
            return codeKind >= ITSELF && codeKind <= LAMBDA;
        }

        /** The value of code that needs no frame; 0 for a variable without one. */
        private int simpleValue(int part, int around) {
            switch (heap.kindOf(part)) {
                case LOCAL:
                    return heap.at(bindingOf(heap.at(part, INFO), around), ITEM);
                case GLOBAL:
                    return store.globalValue(heap.at(part, INFO));
                case LAMBDA:
                    return heap.make(CLOSURE, part, around, 0);
                default:
                    return heap.at(part, INFO);
            }
        }

        private int bindingOf(int inside, int around) {
            int binding = around;
            for (int i = 0; i < inside; i++) {
                binding = heap.at(binding, NEXT);
            }
            return binding;
        }

        /** Evaluates forms one behind the other; the last one is in place of them all. */
        private void evaluateBody(int forms, int around) {
            int behind = heap.at(forms, NEXT);
            if (behind != 0) {
                push(BODY_FRAME, behind, around);
            }
            evaluateLater(heap.at(forms, ITEM), around);
        }

        /** Goes on with the parts of a call, behind those that have been evaluated. */
        private void evaluateParts(int parts, int done, int around) {
            int part = parts;
            int values = done;
            for (int i = 0; i < MAX_SIZE && part != 0; i++) {
                int form = heap.at(part, ITEM);
                if (!isSimple(heap.kindOf(form))) {
                    push(values == 0 ? OPERATOR_FRAME : OPERAND_FRAME, values == 0 ? part : values, around);
                    evaluateLater(form, around);
                    return;
                }
                int answer = simpleValue(form, around);
                if (answer == 0) {
                    fail('u');
                    return;
                }
                part = heap.at(part, NEXT);
                values = heap.make(OPERAND, answer, values, part);
            }
            applyFirst(values);
        }

        private void applyFirst(int values) {
            int count = 0;
            int first = values;
            for (int i = 0; i < MAX_CELLS && heap.at(first, NEXT) != 0; i++) {
                first = heap.at(first, NEXT);
                count++;
            }
            applyLater(heap.at(first, ITEM), values, count);
        }

        private void applyLater(int applied, int values, int count) {
            procedure = applied;
            operands = values;
            operandCount = count;
            mode = APPLY;
        }

        private void applyToNone(int applied) {
            applyLater(applied, 0, 0);
        }

        private void applyToOne(int applied, int operand) {
            applyLater(applied, heap.make(OPERAND, operand, 0, 0), 1);
        }

        private void giveToFrame() {
            int frame = frames;
            if (frame == 0) {
                finish();
                return;
            }
            frames = heap.at(frame, NEXT);
            int subject = heap.at(frame, ITEM);
            int extra = heap.at(frame, EXTRA);
            switch (heap.kindOf(frame)) {
                case TEST_FRAME:
                    branch(subject, extra);
                    break;
                case STORE_FRAME:
                    assign(subject, extra);
                    break;
                case BODY_FRAME:
                    evaluateBody(subject, extra);
                    break;
                case OPERATOR_FRAME:
                    takePart(heap.at(subject, NEXT), 0, extra);
                    break;
                case OPERAND_FRAME:
                    takePart(heap.at(heap.at(subject, EXTRA), NEXT), subject, extra);
                    break;
                case HANDLER_FRAME:
                    topHandler = subject;
                    break;
                case BEFORE_FRAME:
                    enter(subject);
                    push(DURING_FRAME, subject, 0);
                    applyToNone(extra);
                    break;
                case DURING_FRAME:
                    push(AFTER_FRAME, value, 0);
                    leaveWind(subject);
                    break;
                case AFTER_FRAME:
                    value = subject;
                    break;
                case JUMP_FRAME:
                    goOnWithJump(subject, extra);
                    break;
                case ENTER_FRAME:
                    enter(heap.at(extra, ITEM));
                    goOnWithJump(subject, heap.at(extra, NEXT));
                    break;
                default:
                    // A prompt that is come back to lets the value through.
                    break;
            }
        }

        private void takePart(int behind, int values, int around) {
            evaluateParts(behind, heap.make(OPERAND, value, values, behind), around);
        }

        private void branch(int branches, int around) {
            int chosen = value == FALSE_CELL ? heap.at(branches, NEXT) : branches;
            if (chosen == 0) {
                give(NOTHING_CELL);
            } else {
                evaluateLater(heap.at(chosen, ITEM), around);
            }
        }

        private void assign(int target, int around) {
            int info = heap.at(target, INFO);
            switch (heap.kindOf(target)) {
                case SET_LOCAL:
                    heap.put(bindingOf(info, around), ITEM, value);
                    break;
                case SET_GLOBAL:
                    if (store.globalValue(info) == 0) {
                        fail('u');
                        return;
                    }
                    store.define(info, VARIABLE, value);
                    break;
                default:
                    store.define(info, VARIABLE, value);
            }
            give(NOTHING_CELL);
        }

        private void enter(int wind) {
            topWind = wind;
            counts.entered++;
        }

        /** Leaves the innermost wind, and applies its after. */
        private void leaveWind(int wind) {
            topWind = heap.at(wind, NEXT);
            counts.left++;
            topHandler = heap.at(wind, EXTRA);
            applyToNone(heap.at(heap.at(wind, ITEM), NEXT));
        }

        private void applyProcedure() {
            fuel--;
            counts.applications++;
            counts.applicationsOfRun++;
            switch (heap.kindOf(procedure)) {
                case CLOSURE:
                    applyClosure();
                    break;
                case PRIMITIVE:
                    int symbol = heap.at(procedure, AMOUNT);
                    if (operandCount != argumentsOf(symbol)) {
                        fail('a');
                    } else if (isControl(symbol)) {
                        control(symbol);
                    } else {
                        applyPlain(symbol);
                    }
                    break;
                case CONTINUATION:
                    if (operandCount == 1) {
                        jump(procedure, heap.at(operands, ITEM), 0);
                    } else {
                        fail('a');
                    }
                    break;
                default:
                    fail('n');
            }
        }

        private void applyClosure() {
            int lambda = heap.at(procedure, CODE);
            int around = heap.at(procedure, ENVIRONMENT);
            int parameters = heap.at(lambda, INFO) >> 1;
            boolean hasRest = (heap.at(lambda, INFO) & 1) != 0;
            if (operandCount < parameters || operandCount > parameters && !hasRest) {
                fail('a');
                return;
            }
            int operand = operands;
            if (hasRest) {
                int rest = EMPTY_CELL;
                for (int i = operandCount; i > parameters; i--) {
                    rest = heap.make(PAIR, heap.at(operand, ITEM), rest, 0);
                    operand = heap.at(operand, NEXT);
                }
                around = heap.make(BINDING, rest, around, 0);
            }
            for (int i = parameters; i > 0; i--) {
                around = heap.make(BINDING, heap.at(operand, ITEM), around, 0);
                operand = heap.at(operand, NEXT);
            }
            evaluateBody(heap.at(lambda, PARTS), around);
        }

        private static int argumentsOf(int symbol) {
            int index = symbol - FIRST_PRIMITIVE;
            return index >= 0 && index < ARGUMENTS.length ? ARGUMENTS[index] : 0;
        }

        private static boolean isControl(int symbol) {
            return symbol >= 22 && symbol != 25;
        }

        /** An argument of a primitive, from the last one, which is 0. */
        private int argument(int fromLast) {
            return heap.at(bindingOf(fromLast, operands), ITEM);
        }

        /** Applies a primitive that comes to a value at once. */
        private void applyPlain(int symbol) {
            int last = argument(0);
            int answer;
            if (symbol <= LAST_OF_NUMBERS) {
                answer = primitives.reckon(symbol, argument(1), last);
            } else {
                answer = primitives.answer(symbol, operandCount == 2 ? argument(1) : last, last);
            }
            if (answer < 0) {
                fail((char) -answer);
            } else {
                give(answer);
            }
        }

        /** Applies a primitive that changes what is still to be done. */
        private void control(int symbol) {
            int last = argument(0);
            int other = argument(1);
            switch (symbol) {
                case 22:
                    applyToOne(last, heap.make(CONTINUATION, frames, topWind, topHandler));
                    break;
                case 23:
                    wind(argument(2), other, last);
                    break;
                case 24:
                    applyToList(other, last, store.lengthOf(last));
                    break;
                case 26:
                    push(PROMPT_FRAME, last, heap.make(CONTINUATION, frames, topWind, topHandler));
                    applyToNone(other);
                    break;
                case 27:
                    abortTo(innermostPrompt(), last);
                    break;
                case 28:
                    push(HANDLER_FRAME, topHandler, 0);
                    topHandler = heap.make(HANDLER, other, topHandler, countOfHandlers() + 1);
                    applyToNone(last);
                    break;
                default:
                    raise(last);
            }
        }

        private void wind(int before, int during, int after) {
            int thunks = heap.make(THUNKS, before, after, depthOf(topWind) + 1);
            push(BEFORE_FRAME, heap.make(WIND, thunks, topWind, topHandler), during);
            applyToNone(before);
        }

        private void applyToList(int applied, int list, int count) {
            if (count < 0) {
                fail('t');
                return;
            }
            int values = 0;
            int rest = list;
            for (int i = 0; i < count; i++) {
                values = heap.make(OPERAND, heap.at(rest, FIRST), values, 0);
                rest = heap.at(rest, REST);
            }
            applyLater(applied, values, count);
        }

        private void raise(int raised) {
            if (topHandler == 0) {
                fail('h');
                return;
            }
            int handler = topHandler;
            push(HANDLER_FRAME, handler, 0);
            topHandler = heap.at(handler, NEXT);
            applyToOne(heap.at(handler, ITEM), raised);
        }

        /** The frame of the innermost prompt; 0 if there is none. */
        private int innermostPrompt() {
            int frame = frames;
            for (int i = 0; i < MAX_CELLS && frame != 0 && heap.kindOf(frame) != PROMPT_FRAME; i++) {
                frame = heap.at(frame, NEXT);
            }
            return frame;
        }

        private void abortTo(int prompt, int aborted) {
            if (prompt == 0) {
                fail('w');
            } else {
                jump(heap.at(prompt, EXTRA), aborted, heap.at(prompt, ITEM));
            }
        }

        /** Jumps to a continuation, where the value goes on, or is taken by a procedure. */
        private void jump(int target, int carried, int taker) {
            counts.jumps++;
            int goal = heap.make(GOAL, target, carried, taker);
            int from = topWind;
            int to = heap.at(target, WINDS);
            int toEnter = 0;
            for (int i = 0; i < MAX_CELLS && from != to; i++) {
                int fromDepth = depthOf(from);
                int toDepth = depthOf(to);
                if (toDepth >= fromDepth) {
                    toEnter = heap.make(LINK, to, toEnter, 0);
                    to = heap.at(to, NEXT);
                }
                if (fromDepth >= toDepth) {
                    from = heap.at(from, NEXT);
                }
            }
            frames = heap.make(JUMP_FRAME, goal, 0, toEnter);
            give(NOTHING_CELL);
        }

        /** Leaves the next wind that the goal is not in, or enters the next one that it is in, or arrives. */
        private void goOnWithJump(int goal, int toEnter) {
            int target = heap.at(goal, ITEM);
            int next = heap.at(toEnter, ITEM);
            int meeting = toEnter == 0 ? heap.at(target, WINDS) : heap.at(next, NEXT);
            frames = heap.at(target, FRAMES);
            if (topWind != meeting && topWind != 0) {
                push(JUMP_FRAME, goal, toEnter);
                leaveWind(topWind);
            } else if (toEnter != 0) {
                push(ENTER_FRAME, goal, toEnter);
                topHandler = heap.at(next, EXTRA);
                applyToNone(heap.at(heap.at(next, ITEM), ITEM));
            } else {
                topHandler = heap.at(target, HANDLERS);
                arrive(heap.at(goal, NEXT), heap.at(goal, EXTRA));
            }
        }

        private void arrive(int carried, int taker) {
            if (taker == 0) {
                give(carried);
            } else {
                applyToOne(taker, carried);
            }
        }
    }
}
