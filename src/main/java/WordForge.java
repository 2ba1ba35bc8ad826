/**
 * A desk for a language of words: a text is read word by word, and each word is carried out or
 * compiled into the definition that is being made.
 */
public final class WordForge {
    public static final int NONE = -1;

    private static final int MOST_FUEL = 3000;
    private static final int LEAST_NUMBER = -2147483648;
    private static final int GREATEST_NUMBER = 2147483647;

    // The errors that words meet; 0 stands for none.
    private static final int STACK_FULL = -3;
    private static final int STACK_SHORT = -4;
    private static final int STORE_OR_CALLS_FULL = -5;
    private static final int STORE_SHORT = -6;
    private static final int NO_ROOM = -8;
    private static final int NO_CELL_OR_WORD = -9;
    private static final int DIVISION_BY_ZERO = -10;
    private static final int NAME_UNKNOWN = -13;
    private static final int NOT_NOW = -14;
    private static final int TEXT_ENDED = -16;
    private static final int NAME_TOO_LONG = -19;
    private static final int UNPAIRED = -22;
    private static final int NO_STEP_LEFT = -28;
    private static final int WORD_BEING_MADE = -29;
    private static final int LATEST_UNFIT = -32;

    // The sorts of made words, as the document numbers them.
    private static final int COLON = 1;
    private static final int PLACE = 2;
    private static final int CONSTANT = 3;

    // The sorts of open things.
    private static final int NO_THING = 0;
    private static final int OPEN_IF = 1;
    private static final int OPEN_BEGIN = 2;
    private static final int OPEN_WHILE = 3;
    private static final int OPEN_DO = 4;

    // The numbers of those words that other words append.
    private static final int NUMBER_OF_EXIT = 0;
    private static final int NUMBER_OF_LITERAL = 1;
    private static final int NUMBER_OF_JUMP = 2;
    private static final int NUMBER_OF_JUMP_IF_ZERO = 3;
    private static final int NUMBER_OF_ENTER_LOOP = 4;
    private static final int NUMBER_OF_STEP_BY_ONE = 5;
    private static final int NUMBER_OF_STEP_BY = 6;
    private static final int NUMBER_OF_GIVE_BEHAVIOUR = 7;
    private static final int NUMBER_OF_COMPILE = 63;

    // The groups of words: those of one group are carried out by one method.
    private static final int INNER = 0;
    private static final int STACK = 1;
    private static final int ONE_NUMBER = 2;
    private static final int TWO_NUMBERS = 3;
    private static final int MEMORY = 4;
    private static final int WRITING = 5;
    private static final int CONTROL = 6;
    private static final int DEFINING = 7;
    private static final int MAKING = 8;
    private static final int NAMING = 9;
    private static final int AT_ONCE = 10;
    private static final int COMPILING = 11;
    private static final int COMPILING_NAMED = 12;
    private static final int STRUCTURE = 13;

    private final Machine machine;

    public WordForge() {
        machine = new Machine();
    }

    public boolean type(char c) {
        return machine.text.add(c);
    }

    public int run(int fuel) throws IllegalArgumentException {
        if (fuel < 0 || fuel > MOST_FUEL) {
            throw new IllegalArgumentException("fuel is not 0 .. 3000");
        }
        return machine.interpret(fuel);
    }

    public char output(int k) throws IndexOutOfBoundsException {
        if (k < 0 || k >= machine.written.size) {
            throw new IndexOutOfBoundsException("no such character of output");
        }
        return machine.written.characters[k];
    }

    public int stack(int k) throws IndexOutOfBoundsException {
        if (k < 0 || k >= machine.stack.size) {
            throw new IndexOutOfBoundsException("no such number on the stack");
        }
        return machine.stack.numbers[k];
    }

    public int cell(int a) throws IndexOutOfBoundsException {
        if (!machine.memory.isCell(a)) {
            throw new IndexOutOfBoundsException("no such cell");
        }
        return machine.memory.at(a);
    }

    public int word(int k, int what) throws IndexOutOfBoundsException, IllegalArgumentException {
        Dictionary made = machine.dictionary;
        if (k < 0 || k >= made.size) {
            throw new IndexOutOfBoundsException("no such made word");
        }
        switch (what) {
            case 0:
                return made.places[k];
            case 1:
                return made.sorts[k];
            case 2:
                return made.immediate[k] ? 1 : 0;
            case 3:
                return made.behaviours[k];
            case 4:
                return made.finished[k] ? 1 : 0;
            default:
                throw new IllegalArgumentException("what is not 0 .. 4");
        }
    }

    public int count(int what) {
        switch (what) {
            case 0:
                return machine.written.size;
            case 1:
                return machine.stack.size;
            case 2:
                return machine.store.size;
            case 3:
                return machine.memory.here;
            case 4:
                return machine.dictionary.size;
            case 5:
                return machine.maker.compiling ? 1 : 0;
            case 6:
                return machine.steps;
            case 7:
                return machine.caught;
            case 8:
                return machine.maker.open.size;
            default:
                return NONE;
        }
    }

    /** The words that are there from the beginning; a word's place in this list is its number. */
    private enum Word {
        EXIT("exit", INNER),
        LITERAL_NUMBER("", INNER),
        JUMP("", INNER),
        JUMP_IF_ZERO("", INNER, 1),
        ENTER_LOOP("", INNER, 2),
        STEP_BY_ONE("", INNER, 0, 2, 0),
        STEP_BY("", INNER, 1, 2, 0),
        GIVE_BEHAVIOUR("", INNER),
        DUP("dup", STACK, 1),
        DROP("drop", STACK, 1),
        SWAP("swap", STACK, 2),
        OVER("over", STACK, 2),
        ROT("rot", STACK, 3),
        NIP("nip", STACK, 2),
        DUP_UNLESS_ZERO("?dup", STACK, 1),
        DEPTH("depth", STACK),
        PICK("pick", STACK, 1),
        TO_STORE(">r", STACK, 1),
        FROM_STORE("r>", STACK, 0, 1, 0),
        TOP_OF_STORE("r@", STACK, 0, 1, 0),
        INDEX("i", STACK, 0, 1, 0),
        OUTER_INDEX("j", STACK, 0, 3, 0),
        UNLOOP("unloop", STACK, 0, 2, 0),
        ADD("+", TWO_NUMBERS, 2),
        SUBTRACT("-", TWO_NUMBERS, 2),
        MULTIPLY("*", TWO_NUMBERS, 2),
        DIVIDE("/", TWO_NUMBERS, 2),
        REMAINDER("mod", TWO_NUMBERS, 2),
        NEGATE("negate", ONE_NUMBER, 1),
        ABS("abs", ONE_NUMBER, 1),
        MIN("min", TWO_NUMBERS, 2),
        MAX("max", TWO_NUMBERS, 2),
        AND("and", TWO_NUMBERS, 2),
        OR("or", TWO_NUMBERS, 2),
        XOR("xor", TWO_NUMBERS, 2),
        INVERT("invert", ONE_NUMBER, 1),
        EQUAL("=", TWO_NUMBERS, 2),
        LESS("<", TWO_NUMBERS, 2),
        LESS_UNSIGNED("u<", TWO_NUMBERS, 2),
        IS_ZERO("0=", ONE_NUMBER, 1),
        IS_NEGATIVE("0<", ONE_NUMBER, 1),
        ONE_MORE("1+", ONE_NUMBER, 1),
        ONE_LESS("1-", ONE_NUMBER, 1),
        TWICE("2*", ONE_NUMBER, 1),
        FETCH("@", MEMORY, 1),
        SET("!", MEMORY, 2),
        ADD_TO("+!", MEMORY, 2),
        COMMA(",", MEMORY, 1),
        HERE("here", MEMORY),
        ALLOT("allot", MEMORY, 1),
        DOT(".", WRITING, 1),
        EMIT("emit", WRITING, 1),
        NEW_LINE("cr", WRITING),
        BEGIN_COLON(":", DEFINING),
        END_COLON(";", COMPILING),
        MAKE_CONSTANT("constant", DEFINING, 1, 0, 1),
        MAKE_VARIABLE("variable", DEFINING, 0, 0, 1),
        CREATE("create", DEFINING),
        DOES("does>", COMPILING),
        IMMEDIATE("immediate", MAKING),
        TICK("'", NAMING),
        COMPILE_TICK("[']", COMPILING_NAMED),
        EXECUTE("execute", CONTROL, 1),
        COMPILE("compile,", MAKING, 1),
        LITERAL("literal", COMPILING, 1),
        POSTPONE("postpone", COMPILING_NAMED),
        STOP_COMPILING("[", AT_ONCE),
        GO_ON_COMPILING("]", MAKING),
        RECURSE("recurse", COMPILING),
        IF("if", STRUCTURE, 0, 0, 2),
        ELSE("else", STRUCTURE, 0, 0, 2),
        THEN("then", STRUCTURE),
        BEGIN("begin", STRUCTURE),
        UNTIL("until", STRUCTURE, 0, 0, 2),
        WHILE("while", STRUCTURE, 0, 0, 2),
        REPEAT("repeat", STRUCTURE, 0, 0, 2),
        DO("do", STRUCTURE, 0, 0, 1),
        LOOP("loop", STRUCTURE, 0, 0, 2),
        PLUS_LOOP("+loop", STRUCTURE, 0, 0, 2),
        THROW("throw", CONTROL, 1),
        CATCH("catch", CONTROL, 1),
        COMMENT("(", AT_ONCE);

        private static final Word[] ALL = values();

        private final String spelling;
        private final int group;
        private final int takes;
        private final int wantsInStore;
        // of words that define or build a structure: they ask for all their cells at once
        private final int appends;
        private final boolean forCompilingOnly;
        private final boolean immediate;

        Word(String spelling, int group) {
            this(spelling, group, 0, 0, 0);
        }

        Word(String spelling, int group, int takes) {
            this(spelling, group, takes, 0, 0);
        }

        Word(String spelling, int group, int takes, int wantsInStore, int appends) {
            this.spelling = spelling;
            this.group = group;
            this.takes = takes;
            this.wantsInStore = wantsInStore;
            this.appends = appends;
            forCompilingOnly =
                    group == COMPILING || group == COMPILING_NAMED || group == STRUCTURE;
            immediate = forCompilingOnly || group == AT_ONCE;
        }
    }

    /** A row of numbers with a limit: the stack, and the store. */
    private static final class Row {
        private static final int MOST = 30;

        private final int[] numbers = new int[MOST];
        private final int errorWhenFull;
        private int size;

        Row(int errorWhenFull) {
            this.errorWhenFull = errorWhenFull;
        }

        boolean hasRoom(int more) {
            return size + more <= MOST;
        }

        int put(int number) {
            if (size == MOST) {
                return errorWhenFull;
            }
            numbers[size] = number;
            size++;
            return 0;
        }

        int take() {
            int top = fromTop(0);
            drop(1);
            return top;
        }

        int fromTop(int k) {
            return k >= 0 && k < size ? numbers[size - 1 - k] : 0;
        }

        void drop(int many) {
            size = many < size ? size - many : 0;
        }

        /** For words that take their number only when nothing else stood in their way. */
        int dropOneUnless(int error) {
            if (error == 0) {
                drop(1);
            }
            return error;
        }

        void replaceTop(int number) {
            if (size > 0) {
                numbers[size - 1] = number;
            }
        }

        /** Number k from the top becomes the top; those above it go down by one. */
        void raise(int k) {
            int number = fromTop(k);
            for (int below = k; below > 0 && below < size; below--) {
                numbers[size - 1 - below] = numbers[size - below];
            }
            replaceTop(number);
        }

        void resize(int wanted) {
            for (int k = size; k < wanted && k < MOST; k++) {
                numbers[k] = 0;
            }
            size = wanted;
        }
    }

    /** The cells, and the place of the first free one. */
    private static final class Memory {
        private static final int MOST = 400;

        private final int[] cells = new int[MOST];
        private int here;

        boolean isCell(int place) {
            return place >= 0 && place < MOST;
        }

        int at(int place) {
            return isCell(place) ? cells[place] : 0;
        }

        void set(int place, int number) {
            if (isCell(place)) {
                cells[place] = number;
            }
        }

        boolean hasRoom(int more) {
            return here + more <= MOST;
        }

        int append(int number) {
            if (!hasRoom(1)) {
                return NO_ROOM;
            }
            cells[here] = number;
            here++;
            return 0;
        }

        /** Both or none, so that an error leaves the memory as it was. */
        int appendBoth(int first, int second) {
            if (here + 2 > MOST) {
                return NO_ROOM;
            }
            cells[here] = first;
            cells[here + 1] = second;
            here += 2;
            return 0;
        }

        int allot(int more) {
            int moved = here + more;
            if (moved < 0 || moved > MOST) {
                return NO_ROOM;
            }
            here = moved;
            return 0;
        }
    }

    /** The text that was typed, how far it has been read, and the name read last. */
    private static final class Text {
        private static final int MOST = 200;
        private static final int LONGEST_NAME = 9;
        private static final int MOST_DIGITS = 10;
        private static final long NOT_A_NUMBER = GREATEST_NUMBER + 1L;

        private final char[] characters = new char[MOST];
        private int size;
        private int at;
        private int nameStart;
        private int nameLength;

        boolean add(char c) {
            if (size == MOST) {
                return false;
            }
            characters[size] = c;
            size++;
            return true;
        }

        void clear() {
            size = 0;
            at = 0;
        }

        private boolean isBlankAt(int place) {
            return characters[place] == 32 || characters[place] == 10;
        }

        boolean takeName() {
            while (at < size && isBlankAt(at)) {
                at++;
            }
            nameStart = at;
            while (at < size && !isBlankAt(at)) {
                at++;
            }
            nameLength = at - nameStart;
            if (at < size) {
                at++;
            }
            return nameLength > 0;
        }

        int parseName() {
            if (!takeName()) {
                return TEXT_ENDED;
            }
            return nameIsTooLong() ? NAME_TOO_LONG : 0;
        }

        boolean nameIsTooLong() {
            return nameLength > LONGEST_NAME;
        }

        char nameAt(int k) {
            return characters[nameStart + k];
        }

        long nameAsNumber() {
            boolean negative = nameLength > 0 && nameAt(0) == '-';
            int firstDigit = negative ? 1 : 0;
            int digits = nameLength - firstDigit;
            if (digits < 1 || digits > MOST_DIGITS) {
                return NOT_A_NUMBER;
            }
            long number = 0;
            for (int k = firstDigit; k < nameLength; k++) {
                char c = nameAt(k);
                if (c < '0' || c > '9') {
                    return NOT_A_NUMBER;
                }
                number = number * 10 + (c - '0');
            }
            number = negative ? -number : number;
            boolean inBounds = number >= LEAST_NUMBER && number <= GREATEST_NUMBER;
            return inBounds ? number : NOT_A_NUMBER;
        }

        void passComment() {
            while (at < size && characters[at] != ')') {
                at++;
            }
            if (at < size) {
                at++;
            }
        }
    }

    /** What a run wrote, as far as it is kept. */
    private static final class Output {
        private static final int MOST = 300;
        private static final int MOST_DIGITS = 10;

        private final char[] characters = new char[MOST];
        private int size;

        void write(char c) {
            if (size < MOST) {
                characters[size] = c;
                size++;
            }
        }

        void writeNumber(int number) {
            // as a long, because the least int has no positive counterpart
            long rest = number;
            if (number < 0) {
                write('-');
                rest = -rest;
            }
            long unit = 1;
            for (int digits = 1; digits < MOST_DIGITS && unit * 10 <= rest; digits++) {
                unit *= 10;
            }
            for (long worth = unit; worth > 0; worth /= 10) {
                write((char) ('0' + rest / worth % 10));
            }
        }
    }

    /** The made words, and what a name or a number means. */
    private static final class Dictionary {
        private static final int MOST = 40;

        private final char[] letters = new char[MOST * Text.LONGEST_NAME];
        private final int[] lengths = new int[MOST];
        private final int[] places = new int[MOST];
        private final int[] sorts = new int[MOST];
        private final int[] behaviours = new int[MOST];
        private final boolean[] immediate = new boolean[MOST];
        private final boolean[] finished = new boolean[MOST];
        private int size;

        boolean isFull() {
            return size == MOST;
        }

        boolean isWord(int number) {
            return number >= 0 && number < Word.ALL.length + size;
        }

        int latestNumber() {
            return Word.ALL.length + size - 1;
        }

        boolean isMaking() {
            return size > 0 && !finished[size - 1];
        }

        void add(Text text, int sort, int place) {
            if (isFull() || text.nameIsTooLong()) {
                return;
            }
            for (int k = 0; k < text.nameLength; k++) {
                letters[size * Text.LONGEST_NAME + k] = text.nameAt(k);
            }
            lengths[size] = text.nameLength;
            places[size] = place;
            sorts[size] = sort;
            behaviours[size] = NONE;
            immediate[size] = false;
            finished[size] = sort != COLON;
            size++;
        }

        void finishLatest() {
            if (size > 0) {
                finished[size - 1] = true;
            }
        }

        int makeLatestImmediate() {
            if (size == 0) {
                return LATEST_UNFIT;
            }
            immediate[size - 1] = true;
            return 0;
        }

        int giveBehaviourToLatest(int behaviour) {
            if (size == 0 || sorts[size - 1] != PLACE) {
                return LATEST_UNFIT;
            }
            behaviours[size - 1] = behaviour;
            return 0;
        }

        boolean isImmediate(int number) {
            if (number < Word.ALL.length) {
                return number >= 0 && Word.ALL[number].immediate;
            }
            return isWord(number) && immediate[number - Word.ALL.length];
        }

        int find(Text text) {
            for (int k = size - 1; k >= 0; k--) {
                if (finished[k] && isNamed(k, text)) {
                    return Word.ALL.length + k;
                }
            }
            for (int number = 0; number < Word.ALL.length; number++) {
                if (isSpelled(Word.ALL[number].spelling, text)) {
                    return number;
                }
            }
            return NONE;
        }

        private boolean isNamed(int k, Text text) {
            if (lengths[k] != text.nameLength) {
                return false;
            }
            for (int c = 0; c < lengths[k]; c++) {
                if (letters[k * Text.LONGEST_NAME + c] != text.nameAt(c)) {
                    return false;
                }
            }
            return true;
        }

        private boolean isSpelled(String spelling, Text text) {
            if (spelling.length() != text.nameLength) {
                return false;
            }
            for (int c = 0; c < spelling.length(); c++) {
                if (spelling.charAt(c) != text.nameAt(c)) {
                    return false;
                }
            }
            return true;
        }
    }

    /** The row of calls, with the CATCHes among them. */
    private static final class Calls {
        private static final int MOST = 30;

        private final int[] places = new int[MOST];
        private final boolean[] isCatch = new boolean[MOST];
        private final int[] notedStack = new int[MOST];
        private final int[] notedStore = new int[MOST];
        private int size;

        boolean isFull() {
            return size == MOST;
        }

        boolean latestIsCatch() {
            return size > 0 && isCatch[size - 1];
        }

        boolean latestIsCall() {
            return size > 0 && !isCatch[size - 1];
        }

        int add(int place) {
            if (isFull()) {
                return STORE_OR_CALLS_FULL;
            }
            places[size] = place;
            isCatch[size] = false;
            size++;
            return 0;
        }

        void addCatch(int onStack, int inStore) {
            if (isFull()) {
                return;
            }
            isCatch[size] = true;
            notedStack[size] = onStack;
            notedStore[size] = inStore;
            size++;
        }

        int place() {
            return size > 0 ? places[size - 1] : NONE;
        }

        void goOnAt(int place) {
            if (size > 0) {
                places[size - 1] = place;
            }
        }

        void comeBack() {
            if (size > 0) {
                size--;
            }
        }

        int latestCatch() {
            for (int k = size - 1; k >= 0; k--) {
                if (isCatch[k]) {
                    return k;
                }
            }
            return NONE;
        }
    }

    /** The open things of the definition that is being made. */
    private static final class OpenThings {
        private static final int MOST = 12;

        private final int[] sorts = new int[MOST];
        private final int[] places = new int[MOST];
        private int size;

        boolean isFull() {
            return size == MOST;
        }

        int latestSort() {
            return size > 0 ? sorts[size - 1] : NO_THING;
        }

        void add(int sort, int place) {
            if (size < MOST) {
                sorts[size] = sort;
                places[size] = place;
                size++;
            }
        }

        int close() {
            if (size == 0) {
                return NONE;
            }
            size--;
            return places[size];
        }
    }

    /** The words that make words, and those that are carried out while others are compiled. */
    private static final class Maker {
        private final Text text;
        private final Row stack;
        private final Memory memory;
        private final Dictionary dictionary;
        private final OpenThings open = new OpenThings();
        private boolean compiling;

        Maker(Text text, Row stack, Memory memory, Dictionary dictionary) {
            this.text = text;
            this.stack = stack;
            this.memory = memory;
            this.dictionary = dictionary;
        }

        void giveUp() {
            compiling = false;
            open.size = 0;
            if (dictionary.isMaking()) {
                dictionary.size--;
                memory.here = dictionary.places[dictionary.size];
            }
        }

        int define(Word word) {
            if (dictionary.isMaking()) {
                return WORD_BEING_MADE;
            }
            int error = text.parseName();
            if (error != 0) {
                return error;
            }
            if (dictionary.isFull() || !memory.hasRoom(word.appends)) {
                return NO_ROOM;
            }
            begin(word);
            return 0;
        }

        private void begin(Word word) {
            switch (word) {
                case BEGIN_COLON:
                    dictionary.add(text, COLON, memory.here);
                    compiling = true;
                    break;
                case MAKE_CONSTANT:
                    dictionary.add(text, CONSTANT, memory.here);
                    memory.append(stack.take());
                    break;
                case MAKE_VARIABLE:
                    dictionary.add(text, PLACE, memory.here);
                    memory.append(0);
                    break;
                default:
                    dictionary.add(text, PLACE, memory.here);
                    break;
            }
        }

        int make(Word word) {
            switch (word) {
                case IMMEDIATE:
                    return dictionary.makeLatestImmediate();
                case COMPILE:
                    return compile(stack.fromTop(0));
                default:
                    return goOnCompiling();
            }
        }

        private int compile(int number) {
            if (!dictionary.isWord(number)) {
                return NO_CELL_OR_WORD;
            }
            return stack.dropOneUnless(memory.append(number));
        }

        private int goOnCompiling() {
            if (!dictionary.isMaking()) {
                return NOT_NOW;
            }
            compiling = true;
            return 0;
        }

        int doAtOnce(Word word) {
            if (word == Word.STOP_COMPILING) {
                compiling = false;
            } else {
                text.passComment();
            }
            return 0;
        }

        int useNamed(Word word) {
            int error = text.parseName();
            if (error != 0) {
                return error;
            }
            int number = dictionary.find(text);
            if (number == NONE) {
                return NAME_UNKNOWN;
            }
            switch (word) {
                case TICK:
                    return stack.put(number);
                case COMPILE_TICK:
                    return memory.appendBoth(NUMBER_OF_LITERAL, number);
                default:
                    return postpone(number);
            }
        }

        private int postpone(int number) {
            if (dictionary.isImmediate(number)) {
                return memory.append(number);
            }
            if (!memory.hasRoom(3)) {
                return NO_ROOM;
            }
            memory.appendBoth(NUMBER_OF_LITERAL, number);
            return memory.append(NUMBER_OF_COMPILE);
        }

        int compileInto(Word word) {
            switch (word) {
                case END_COLON:
                    return endColon();
                case DOES:
                    return memory.append(NUMBER_OF_GIVE_BEHAVIOUR);
                case LITERAL:
                    return stack.dropOneUnless(
                            memory.appendBoth(NUMBER_OF_LITERAL, stack.fromTop(0)));
                default:
                    return memory.append(dictionary.latestNumber());
            }
        }

        private int endColon() {
            if (open.size > 0) {
                return UNPAIRED;
            }
            int error = memory.append(NUMBER_OF_EXIT);
            if (error == 0) {
                dictionary.finishLatest();
                compiling = false;
            }
            return error;
        }

        int structure(Word word) {
            int wanted = openThingFor(word);
            if (wanted != NO_THING && open.latestSort() != wanted) {
                return UNPAIRED;
            }
            if (opensOneMore(word) && open.isFull()) {
                return UNPAIRED;
            }
            if (!memory.hasRoom(word.appends)) {
                return NO_ROOM;
            }
            build(word);
            return 0;
        }

        private int openThingFor(Word word) {
            switch (word) {
                case ELSE:
                case THEN:
                    return OPEN_IF;
                case UNTIL:
                case WHILE:
                    return OPEN_BEGIN;
                case REPEAT:
                    return OPEN_WHILE;
                case LOOP:
                case PLUS_LOOP:
                    return OPEN_DO;
                default:
                    return NO_THING;
            }
        }

        private boolean opensOneMore(Word word) {
            return word == Word.IF || word == Word.BEGIN || word == Word.WHILE || word == Word.DO;
        }

        private void build(Word word) {
            switch (word) {
                case IF:
                    openJump(NUMBER_OF_JUMP_IF_ZERO, OPEN_IF);
                    break;
                case ELSE:
                    int skipped = open.close();
                    openJump(NUMBER_OF_JUMP, OPEN_IF);
                    memory.set(skipped, memory.here);
                    break;
                case THEN:
                    memory.set(open.close(), memory.here);
                    break;
                case BEGIN:
                    open.add(OPEN_BEGIN, memory.here);
                    break;
                case UNTIL:
                    memory.appendBoth(NUMBER_OF_JUMP_IF_ZERO, open.close());
                    break;
                case WHILE:
                    openJump(NUMBER_OF_JUMP_IF_ZERO, OPEN_WHILE);
                    break;
                case REPEAT:
                    int wayOut = open.close();
                    memory.appendBoth(NUMBER_OF_JUMP, open.close());
                    memory.set(wayOut, memory.here);
                    break;
                case DO:
                    memory.append(NUMBER_OF_ENTER_LOOP);
                    open.add(OPEN_DO, memory.here);
                    break;
                case LOOP:
                    memory.appendBoth(NUMBER_OF_STEP_BY_ONE, open.close());
                    break;
                case PLUS_LOOP:
                    memory.appendBoth(NUMBER_OF_STEP_BY, open.close());
                    break;
                default:
                    break;
            }
        }

        private void openJump(int jump, int sort) {
            memory.appendBoth(jump, 0);
            open.add(sort, memory.here - 1);
        }
    }

    /** Reads the text, carries words out and meets errors. */
    private static final class Machine {
        // far above what the steps of a run and the names of a text can need
        private static final int MOST_TURNS = 1000000;

        private final Text text = new Text();
        private final Row stack = new Row(STACK_FULL);
        private final Row store = new Row(STORE_OR_CALLS_FULL);
        private final Memory memory = new Memory();
        private final Dictionary dictionary = new Dictionary();
        private final Calls calls = new Calls();
        private final Output written = new Output();
        private final Maker maker = new Maker(text, stack, memory, dictionary);
        private int stepsAllowed;
        private int steps;
        private int caught;
        private int nextWord = NONE;
        private boolean over;
        private int answer;

        int interpret(int fuel) {
            stepsAllowed = fuel;
            steps = 0;
            caught = 0;
            written.size = 0;
            over = false;
            answer = 0;
            for (int turn = 0; turn < MOST_TURNS && !over; turn++) {
                if (nextWord != NONE && steps == stepsAllowed) {
                    // not met as other errors are, because no CATCH gets this one
                    endWith(NO_STEP_LEFT);
                } else {
                    meet(nextWord == NONE ? goOn() : carryOutNext());
                }
            }
            text.clear();
            return answer;
        }

        /** Without a word to carry out: looks for one in the latest call, or else in the text. */
        private int goOn() {
            if (calls.latestIsCall()) {
                return goOnWithCall();
            }
            if (calls.latestIsCatch()) {
                // it goes first, so that it does not get the error of a full stack
                calls.comeBack();
                return stack.put(0);
            }
            if (text.takeName()) {
                return readName();
            }
            over = true;
            return 0;
        }

        private void meet(int error) {
            if (error == 0) {
                return;
            }
            int place = calls.latestCatch();
            if (place == NONE) {
                endWith(error);
                return;
            }
            stack.resize(calls.notedStack[place]);
            store.resize(calls.notedStore[place]);
            calls.size = place;
            stack.put(error);
            caught++;
        }

        private void endWith(int error) {
            stack.size = 0;
            store.size = 0;
            calls.size = 0;
            maker.giveUp();
            nextWord = NONE;
            over = true;
            answer = error;
        }

        private int readName() {
            int number = dictionary.find(text);
            if (number != NONE) {
                if (maker.compiling && !dictionary.isImmediate(number)) {
                    return memory.append(number);
                }
                nextWord = number;
                return 0;
            }
            long value = text.nameAsNumber();
            if (value == Text.NOT_A_NUMBER) {
                return text.nameIsTooLong() ? NAME_TOO_LONG : NAME_UNKNOWN;
            }
            if (maker.compiling) {
                return memory.appendBoth(NUMBER_OF_LITERAL, (int) value);
            }
            return stack.put((int) value);
        }

        private int goOnWithCall() {
            int place = calls.place();
            if (!memory.isCell(place) || !dictionary.isWord(memory.at(place))) {
                return NO_CELL_OR_WORD;
            }
            calls.goOnAt(place + 1);
            nextWord = memory.at(place);
            return 0;
        }

        private int carryOutNext() {
            int number = nextWord;
            nextWord = NONE;
            steps++;
            if (number >= Word.ALL.length) {
                return carryOutMade(number - Word.ALL.length);
            }
            Word word = Word.ALL[number];
            int error = askFirst(word);
            if (error != 0) {
                return error;
            }
            switch (word.group) {
                case INNER:
                    return carryOutInner(word);
                case STACK:
                    return moveNumbers(word);
                case ONE_NUMBER:
                    stack.replaceTop(ofOne(word, stack.fromTop(0)));
                    return 0;
                case TWO_NUMBERS:
                    return reckonWithTwo(word);
                case MEMORY:
                    return useMemory(word);
                case WRITING:
                    return write(word);
                case CONTROL:
                    return control(word);
                case DEFINING:
                    return maker.define(word);
                case MAKING:
                    return maker.make(word);
                case NAMING:
                case COMPILING_NAMED:
                    return maker.useNamed(word);
                case AT_ONCE:
                    return maker.doAtOnce(word);
                case COMPILING:
                    return maker.compileInto(word);
                default:
                    return maker.structure(word);
            }
        }

        private int carryOutMade(int k) {
            if (dictionary.sorts[k] == COLON) {
                return calls.add(dictionary.places[k]);
            }
            if (dictionary.sorts[k] == CONSTANT) {
                return stack.put(memory.at(dictionary.places[k]));
            }
            if (!stack.hasRoom(1)) {
                return STACK_FULL;
            }
            if (dictionary.behaviours[k] != NONE && calls.isFull()) {
                return STORE_OR_CALLS_FULL;
            }
            stack.put(dictionary.places[k]);
            return dictionary.behaviours[k] == NONE ? 0 : calls.add(dictionary.behaviours[k]);
        }

        private int askFirst(Word word) {
            if (word.group == INNER && !calls.latestIsCall()) {
                return NOT_NOW;
            }
            if (word.forCompilingOnly && !maker.compiling) {
                return NOT_NOW;
            }
            if (stack.size < word.takes) {
                return STACK_SHORT;
            }
            return store.size < word.wantsInStore ? STORE_SHORT : 0;
        }

        private int carryOutInner(Word word) {
            switch (word) {
                case EXIT:
                    calls.comeBack();
                    return 0;
                case ENTER_LOOP:
                    return enterLoop();
                case GIVE_BEHAVIOUR:
                    return giveBehaviour();
                default:
                    return useNumberBehind(word, calls.place());
            }
        }

        private int enterLoop() {
            if (!store.hasRoom(2)) {
                return STORE_OR_CALLS_FULL;
            }
            store.put(stack.fromTop(1));
            store.put(stack.fromTop(0));
            stack.drop(2);
            return 0;
        }

        private int giveBehaviour() {
            int error = dictionary.giveBehaviourToLatest(calls.place());
            if (error == 0) {
                calls.comeBack();
            }
            return error;
        }

        private int useNumberBehind(Word word, int place) {
            if (!memory.isCell(place)) {
                return NO_CELL_OR_WORD;
            }
            int number = memory.at(place);
            switch (word) {
                case LITERAL_NUMBER:
                    return putAndPass(number, place);
                case JUMP:
                    calls.goOnAt(number);
                    return 0;
                case JUMP_IF_ZERO:
                    calls.goOnAt(stack.take() == 0 ? number : place + 1);
                    return 0;
                case STEP_BY_ONE:
                    calls.goOnAt(loopEnds(1) ? place + 1 : number);
                    return 0;
                default:
                    calls.goOnAt(loopEnds(stack.take()) ? place + 1 : number);
                    return 0;
            }
        }

        private int putAndPass(int number, int place) {
            int error = stack.put(number);
            if (error == 0) {
                calls.goOnAt(place + 1);
            }
            return error;
        }

        private boolean loopEnds(int step) {
            int before = store.fromTop(0) - store.fromTop(1);
            int after = before + step;
            if ((before < 0) != (after < 0)) {
                store.drop(2);
                return true;
            }
            store.replaceTop(store.fromTop(0) + step);
            return false;
        }

        private int moveNumbers(Word word) {
            switch (word) {
                case DUP:
                    return stack.put(stack.fromTop(0));
                case DROP:
                    stack.drop(1);
                    return 0;
                case SWAP:
                    stack.raise(1);
                    return 0;
                case OVER:
                    return stack.put(stack.fromTop(1));
                case ROT:
                    stack.raise(2);
                    return 0;
                case NIP:
                    stack.raise(1);
                    stack.drop(1);
                    return 0;
                case DUP_UNLESS_ZERO:
                    return stack.fromTop(0) == 0 ? 0 : stack.put(stack.fromTop(0));
                case DEPTH:
                    return stack.put(stack.size);
                case PICK:
                    return pick();
                default:
                    return useStore(word);
            }
        }

        private int pick() {
            int wanted = stack.fromTop(0);
            if (wanted < 0 || wanted >= stack.size - 1) {
                return STACK_SHORT;
            }
            stack.replaceTop(stack.fromTop(wanted + 1));
            return 0;
        }

        private int useStore(Word word) {
            switch (word) {
                case TO_STORE:
                    return store.hasRoom(1) ? store.put(stack.take()) : STORE_OR_CALLS_FULL;
                case FROM_STORE:
                    return stack.hasRoom(1) ? stack.put(store.take()) : STACK_FULL;
                case OUTER_INDEX:
                    return stack.put(store.fromTop(2));
                case UNLOOP:
                    store.drop(2);
                    return 0;
                default:
                    return stack.put(store.fromTop(0));
            }
        }

        private int ofOne(Word word, int a) {
            switch (word) {
                case NEGATE:
                    return -a;
                case ABS:
                    return a < 0 ? -a : a;
                case INVERT:
                    return ~a;
                case IS_ZERO:
                    return truth(a == 0);
                case IS_NEGATIVE:
                    return truth(a < 0);
                case ONE_MORE:
                    return a + 1;
                case ONE_LESS:
                    return a - 1;
                default:
                    return a << 1;
            }
        }

        private int truth(boolean holds) {
            return holds ? -1 : 0;
        }

        private int reckonWithTwo(Word word) {
            boolean divides = word == Word.DIVIDE || word == Word.REMAINDER;
            if (divides && stack.fromTop(0) == 0) {
                return DIVISION_BY_ZERO;
            }
            int b = stack.take();
            int a = stack.take();
            return stack.put(divides ? quotientOrRest(word, a, b) : ofTwo(word, a, b));
        }

        private int quotientOrRest(Word word, int a, int b) {
            if (b == 0) {
                return 0;
            }
            return word == Word.DIVIDE ? a / b : a % b;
        }

        private int ofTwo(Word word, int a, int b) {
            switch (word) {
                case ADD:
                    return a + b;
                case SUBTRACT:
                    return a - b;
                case MULTIPLY:
                    return a * b;
                case MIN:
                    return a < b ? a : b;
                case MAX:
                    return a > b ? a : b;
                case AND:
                    return a & b;
                case OR:
                    return a | b;
                case XOR:
                    return a ^ b;
                case EQUAL:
                    return truth(a == b);
                case LESS:
                    return truth(a < b);
                default:
                    // with the sign bits turned round, the signed order is the unsigned one
                    return truth((a ^ LEAST_NUMBER) < (b ^ LEAST_NUMBER));
            }
        }

        private int useMemory(Word word) {
            switch (word) {
                case HERE:
                    return stack.put(memory.here);
                case COMMA:
                    return stack.dropOneUnless(memory.append(stack.fromTop(0)));
                case ALLOT:
                    return stack.dropOneUnless(memory.allot(stack.fromTop(0)));
                default:
                    return useCell(word, stack.fromTop(0));
            }
        }

        private int useCell(Word word, int place) {
            if (!memory.isCell(place)) {
                return NO_CELL_OR_WORD;
            }
            if (word == Word.FETCH) {
                stack.replaceTop(memory.at(place));
                return 0;
            }
            int base = word == Word.ADD_TO ? memory.at(place) : 0;
            memory.set(place, base + stack.fromTop(1));
            stack.drop(2);
            return 0;
        }

        private int write(Word word) {
            switch (word) {
                case DOT:
                    written.writeNumber(stack.take());
                    written.write(' ');
                    return 0;
                case EMIT:
                    written.write((char) (stack.take() & 127));
                    return 0;
                default:
                    written.write('\n');
                    return 0;
            }
        }

        private int control(Word word) {
            if (word == Word.THROW) {
                return stack.take();
            }
            if (!dictionary.isWord(stack.fromTop(0))) {
                return NO_CELL_OR_WORD;
            }
            if (word == Word.CATCH) {
                if (calls.isFull()) {
                    return STORE_OR_CALLS_FULL;
                }
                calls.addCatch(stack.size - 1, store.size);
            }
            nextWord = stack.take();
            return 0;
        }
    }
}
