import java.util.Arrays;

/** Small programs on words of 32 bits: a text is compiled once and then run on a memory of words. */
public final class RoundCompiler {
    private static final int MOST_CHARACTERS = 480;
    private static final int WORDS = 192;
    private static final int NAMES = 26;
    private static final int MOST_TURNS = 640;

    /** What no text holds, so that it can stand for the text's end. */
    private static final int END = 0;

    // Kinds of instructions. An operator's kind is its own character, and those begin at 33.
    private static final int NUMBER = 1;
    private static final int NAME = 2;
    private static final int LOAD = 3;
    private static final int SET = 4;
    private static final int STORE = 5;
    private static final int LOOP = 6;
    private static final int AGAIN = 7;
    private static final int SKIP = 8;

    private final Reader reader;
    private final Machine machine;
    private Code ready;
    private boolean isReady;

    public RoundCompiler() {
        reader = new Reader();
        machine = new Machine();
        ready = new Code();
        isReady = false;
    }

    public boolean write(long characters) {
        int added = 0;
        for (int k = 0; k < 8; k++) {
            int character = byteOf(characters, k);
            if (character != 0) {
                if (character < 33 || character > 126) {
                    return false;
                }
                added++;
            }
        }
        if (added > MOST_CHARACTERS - reader.length) {
            return false;
        }
        for (int k = 0; k < 8; k++) {
            int character = byteOf(characters, k);
            if (character != 0) {
                reader.append(character);
            }
        }
        return true;
    }

    public void wipe() {
        reader.length = 0;
    }

    public int compile() throws IllegalArgumentException {
        if (!reader.readText()) {
            throw new IllegalArgumentException("the text has a fault");
        }
        ready = reader.exchanged(ready);
        isReady = true;
        return ready.statements;
    }

    public int fault() {
        return reader.faultPlace;
    }

    public int work() {
        return ready.operators;
    }

    public int run() throws IllegalStateException, IndexOutOfBoundsException {
        if (!isReady) {
            throw new IllegalStateException("no program is ready");
        }
        if (!machine.carriesOut(ready)) {
            throw new IndexOutOfBoundsException("the program used a word outside of memory");
        }
        return machine.steps;
    }

    public int value(int name) throws IndexOutOfBoundsException {
        if (name < 0 || name >= NAMES) {
            throw new IndexOutOfBoundsException("no such name");
        }
        return machine.values[name];
    }

    public void poke(int address, int w) throws IndexOutOfBoundsException {
        if (!isAddress(address)) {
            throw new IndexOutOfBoundsException("no such address");
        }
        machine.memory[address] = w;
    }

    public int peek(int address) throws IndexOutOfBoundsException {
        if (!isAddress(address)) {
            throw new IndexOutOfBoundsException("no such address");
        }
        return machine.memory[address];
    }

    public void fill(int n, int first, int by) throws IllegalArgumentException {
        if (n < 0 || n > WORDS) {
            throw new IllegalArgumentException("memory does not have so many words");
        }
        for (int k = 0; k < n; k++) {
            machine.memory[k] = first + k * by;
        }
    }

    public int mixed() {
        int all = 0;
        for (int address = 0; address < WORDS; address++) {
            all ^= ofOne('<', machine.memory[address], address % 32);
        }
        return all;
    }

    private static int byteOf(long characters, int k) {
        return (int) (characters >>> (8 * k)) & 255;
    }

    private static boolean isAddress(int address) {
        return address >= 0 && address < WORDS;
    }

    private static int ofOne(int operator, int word, int bits) {
        switch (operator) {
            case '<':
                // Right for 0 bits too: Java shifts by 32 as by 0, so the word stays as it is.
                return (word << bits) | (word >>> (32 - bits));
            case '>':
                return word >>> bits;
            default:
                return ~word;
        }
    }

    private static int ofTwo(int operator, int left, int right) {
        switch (operator) {
            case '+':
                return left + right;
            case '-':
                return left - right;
            case '*':
                return left * right;
            case '&':
                return left & right;
            case '|':
                return left | right;
            default:
                return left ^ right;
        }
    }

    /**
     * Instructions for a machine with a stack. A row each for their kinds and two arguments, which
     * are made once and used for every text. Every instruction comes from a character of its own,
     * so there is room for those of the longest text.
     */
    private static final class Code {
        private final int[] kinds;
        private final int[] firsts;
        private final int[] seconds;
        private int size;
        private int statements;
        private int operators;

        private Code() {
            kinds = new int[MOST_CHARACTERS];
            firsts = new int[MOST_CHARACTERS];
            seconds = new int[MOST_CHARACTERS];
        }

        private void empty() {
            size = 0;
            statements = 0;
            operators = 0;
        }

        private void add(int kind, int first, int second) {
            if (size < kinds.length) {
                kinds[size] = kind;
                firsts[size] = first;
                seconds[size] = second;
                size++;
            }
        }

        /** A settled operator leaves a number instead of itself, so those added are not settled. */
        private void addOfOne(int operator, int bits) {
            if (endsInNumbers(1)) {
                firsts[size - 1] = ofOne(operator, firsts[size - 1], bits);
            } else {
                add(operator, bits, 0);
                operators++;
            }
        }

        private void addOfTwo(int operator) {
            if (endsInNumbers(2)) {
                size--;
                firsts[size - 1] = ofTwo(operator, firsts[size - 1], firsts[size]);
            } else {
                add(operator, 0, 0);
                operators++;
            }
        }

        /**
         * An operand that ends in a number is nothing but this number, as all else stands behind
         * what it works on. So the instruction before it is the end of the operand before it.
         */
        private boolean endsInNumbers(int many) {
            if (size < many) {
                return false;
            }
            for (int k = 1; k <= many; k++) {
                if (kinds[size - k] != NUMBER) {
                    return false;
                }
            }
            return true;
        }

        private void setFirst(int at, int first) {
            if (at >= 0 && at < size) {
                firsts[at] = first;
            }
        }
    }

    /** Holds the text and reads it into code. Each read.. answers false if it met the fault. */
    private static final class Reader {
        private static final int MOST_INSIDE = 12;
        private static final int MOST_BLOCKS = 8;
        private static final int MOST_BITS = 31;
        private static final int MOST_LOOP = 64;
        private static final long MOST_NUMBER = 4294967295L;

        private final char[] text;
        private int length;
        /** Never the code that is ready: a text with a fault must leave that one as it is. */
        private Code code;
        private int at;
        private int faultPlace;
        private long number;
        /** A bit for the name of each loop around what is read. */
        private int loops;
        /** The product of the numbers of those loops. */
        private int turns;

        private Reader() {
            text = new char[MOST_CHARACTERS];
            code = new Code();
        }

        private void append(int character) {
            if (length < text.length) {
                text[length] = (char) character;
                length++;
            }
        }

        /** Hands out the code that has been read, and keeps another one to read into next. */
        private Code exchanged(Code other) {
            Code read = code;
            code = other;
            return read;
        }

        private boolean readText() {
            code.empty();
            at = 0;
            faultPlace = 0;
            loops = 0;
            turns = 1;
            return readProgram(0) && expect(END);
        }

        private int here() {
            return at < length && at < text.length ? text[at] : END;
        }

        private boolean refuse(int index) {
            faultPlace = index + 1;
            return false;
        }

        private boolean expect(int character) {
            if (here() != character) {
                return refuse(at);
            }
            at++;
            return true;
        }

        private boolean readProgram(int blocks) {
            for (int n = 0; n < MOST_CHARACTERS && here() != END && here() != '}'; n++) {
                code.statements++;
                if (!readStatement(blocks)) {
                    return false;
                }
            }
            return true;
        }

        private boolean readStatement(int blocks) {
            switch (here()) {
                case '@':
                    return readStore();
                case '#':
                    return blocks < MOST_BLOCKS ? readLoop(blocks) : refuse(at);
                case '?':
                    return blocks < MOST_BLOCKS ? readBranch(blocks) : refuse(at);
                default:
                    return readSet();
            }
        }

        private boolean readSet() {
            int name = freeName();
            if (name < 0) {
                return refuse(at);
            }
            at++;
            if (!expect('=') || !readSum(0) || !expect(';')) {
                return false;
            }
            code.add(SET, name, 0);
            return true;
        }

        private boolean readStore() {
            at++;
            if (!expect('[') || !readSum(0) || !expect(']')) {
                return false;
            }
            if (!expect('=') || !readSum(0) || !expect(';')) {
                return false;
            }
            code.add(STORE, 0, 0);
            return true;
        }

        private boolean readLoop(int blocks) {
            at++;
            int name = freeName();
            if (name < 0) {
                return refuse(at);
            }
            at++;
            int numberAt = at;
            if (!readNumber(1, MOST_LOOP)) {
                return false;
            }
            int many = (int) number;
            if (turns * many > MOST_TURNS) {
                return refuse(numberAt);
            }
            int start = code.size;
            code.add(LOOP, name, many);
            int turnsAround = turns;
            turns *= many;
            loops |= 1 << name;
            if (!readBlock(blocks)) {
                return false;
            }
            loops &= ~(1 << name);
            turns = turnsAround;
            code.add(AGAIN, start, 0);
            return true;
        }

        private boolean readBranch(int blocks) {
            at++;
            if (!readSum(0)) {
                return false;
            }
            int skip = code.size;
            code.add(SKIP, 0, 0);
            if (!readBlock(blocks)) {
                return false;
            }
            code.setFirst(skip, code.size);
            return true;
        }

        private boolean readBlock(int blocks) {
            return expect('{') && readProgram(blocks + 1) && expect('}');
        }

        private boolean readSum(int inside) {
            if (!readTurned(inside)) {
                return false;
            }
            for (int n = 0; n < MOST_CHARACTERS && isOperator(here()); n++) {
                int operator = here();
                at++;
                if (!readTurned(inside)) {
                    return false;
                }
                code.addOfTwo(operator);
            }
            return true;
        }

        private boolean readTurned(int inside) {
            if (!readFactor(inside)) {
                return false;
            }
            for (int n = 0; n < MOST_CHARACTERS && (here() == '<' || here() == '>'); n++) {
                int operator = here();
                at++;
                if (!readNumber(1, MOST_BITS)) {
                    return false;
                }
                code.addOfOne(operator, (int) number);
            }
            return true;
        }

        private boolean readFactor(int inside) {
            int name = nameOf(here());
            if (name >= 0) {
                at++;
                code.add(NAME, name, 0);
                return true;
            }
            if (here() == '~' || here() == '(' || here() == '@') {
                return inside < MOST_INSIDE ? readNested(inside + 1) : refuse(at);
            }
            if (!readNumber(0, MOST_NUMBER)) {
                return false;
            }
            code.add(NUMBER, (int) number, 0);
            return true;
        }

        private boolean readNested(int inside) {
            int opening = here();
            at++;
            if (opening == '(') {
                return readSum(inside) && expect(')');
            }
            if (opening == '~') {
                if (!readFactor(inside)) {
                    return false;
                }
                code.addOfOne(opening, 0);
                return true;
            }
            if (!expect('[') || !readSum(inside) || !expect(']')) {
                return false;
            }
            code.add(LOAD, 0, 0);
            return true;
        }

        private boolean readNumber(long least, long most) {
            int start = at;
            boolean isHex = here() == '$';
            if (isHex) {
                at++;
            }
            int base = isHex ? 16 : 10;
            int mostDigits = isHex ? 8 : 10;
            int digits = 0;
            number = 0;
            while (digits < MOST_CHARACTERS && digitOf(here(), base) >= 0) {
                // A number with too many digits is refused below; its value must not overflow here.
                if (digits < mostDigits) {
                    number = number * base + digitOf(here(), base);
                }
                digits++;
                at++;
            }
            if (digits == 0) {
                return refuse(at);
            }
            if (digits > mostDigits || number < least || number > most) {
                return refuse(start);
            }
            return true;
        }

        /** The name that stands here if no loop around holds it, or -1. */
        private int freeName() {
            int name = nameOf(here());
            return name >= 0 && (loops >> name & 1) == 0 ? name : -1;
        }

        private static int nameOf(int character) {
            return character >= 'a' && character <= 'z' ? character - 'a' : -1;
        }

        private static int digitOf(int character, int base) {
            if (character >= '0' && character <= '9') {
                return character - '0';
            }
            return base == 16 && character >= 'a' && character <= 'f' ? character - 'a' + 10 : -1;
        }

        private static boolean isOperator(int character) {
            switch (character) {
                case '+':
                case '-':
                case '*':
                case '&':
                case '|':
                case '^':
                    return true;
                default:
                    return false;
            }
        }
    }

    /** Holds memory and the names, and carries code out on them. */
    private static final class Machine {
        /** An instruction is carried out at most once for each turn of the loops around it. */
        private static final int MOST_INSTRUCTIONS = MOST_CHARACTERS * MOST_TURNS;
        /** A left operand for each ( and @ around, the address of a store, and two operands. */
        private static final int MOST_ON_STACK = 16;

        private final int[] memory;
        private final int[] memoryBefore;
        /** The names' values at the end of the latest run that did not fail. */
        private final int[] values;
        private final int[] names;
        private final int[] stack;
        private int top;
        private int steps;
        private boolean failed;

        private Machine() {
            memory = new int[WORDS];
            memoryBefore = new int[WORDS];
            values = new int[NAMES];
            names = new int[NAMES];
            stack = new int[MOST_ON_STACK];
        }

        /** False when the run failed: then memory and the values are as they were. */
        private boolean carriesOut(Code code) {
            System.arraycopy(memory, 0, memoryBefore, 0, WORDS);
            Arrays.fill(names, 0);
            top = 0;
            steps = 0;
            failed = false;
            int at = 0;
            for (int n = 0; n < MOST_INSTRUCTIONS && at < code.size && !failed; n++) {
                at = behind(code, at);
            }
            if (failed) {
                System.arraycopy(memoryBefore, 0, memory, 0, WORDS);
            } else {
                System.arraycopy(names, 0, values, 0, NAMES);
            }
            return !failed;
        }

        /** Carries out one instruction; answers where the next one stands. */
        private int behind(Code code, int at) {
            if (at < 0 || at >= code.size) {
                return code.size;
            }
            int first = code.firsts[at];
            switch (code.kinds[at]) {
                case NUMBER:
                    push(first);
                    break;
                case NAME:
                    push(named(first));
                    break;
                case LOAD:
                    push(loaded(pop()));
                    break;
                case SET:
                    name(first, pop());
                    steps++;
                    break;
                case STORE:
                    int word = pop();
                    store(pop(), word);
                    steps++;
                    break;
                case LOOP:
                    name(first, 0);
                    break;
                case AGAIN:
                    return turnsAgain(code, first) ? first + 1 : at + 1;
                case SKIP:
                    return pop() == 0 ? first : at + 1;
                case '<':
                case '>':
                case '~':
                    push(ofOne(code.kinds[at], pop(), first));
                    break;
                default:
                    int right = pop();
                    push(ofTwo(code.kinds[at], pop(), right));
            }
            return at + 1;
        }

        /** Nothing inside a loop can give its name a value, so the name itself counts the turns. */
        private boolean turnsAgain(Code code, int loop) {
            if (loop < 0 || loop >= code.size) {
                return false;
            }
            int name = code.firsts[loop];
            int next = named(name) + 1;
            if (next >= code.seconds[loop]) {
                return false;
            }
            name(name, next);
            return true;
        }

        private int loaded(int address) {
            if (!isAddress(address)) {
                failed = true;
                return 0;
            }
            return memory[address];
        }

        private void store(int address, int word) {
            if (isAddress(address)) {
                memory[address] = word;
            } else {
                failed = true;
            }
        }

        private int named(int name) {
            return name >= 0 && name < NAMES ? names[name] : 0;
        }

        private void name(int name, int word) {
            if (name >= 0 && name < NAMES) {
                names[name] = word;
            }
        }

        private void push(int word) {
            if (top < stack.length) {
                stack[top] = word;
                top++;
            }
        }

        private int pop() {
            if (top <= 0) {
                return 0;
            }
            top--;
            return stack[top];
        }
    }
}
