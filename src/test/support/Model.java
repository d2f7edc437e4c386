import java.util.ArrayDeque;
import java.util.ArrayList;
import java.util.Deque;
import java.util.List;

/**
 * The document once more, made in another way than the class: faults are found with a stack of what
 * is to come, and a run reads the text itself, again for each turn of a loop.
 */
final class Model {
    private static final long WORD = 0xffffffffL;

    String text = "";
    private String ready = null;
    int fault = 0;
    long[] memory = new long[192];
    private long[] values = new long[26];

    boolean write(long characters) {
        StringBuilder more = new StringBuilder();
        for (int k = 0; k < 8; k++) {
            long b = characters >> 8 * k & 255;
            if (b != 0 && (b <= 32 || b >= 127)) {
                return false;
            }
            if (b != 0) {
                more.append((char) b);
            }
        }
        if (text.length() + more.length() > 480) {
            return false;
        }
        text += more;
        return true;
    }

    /** The number of statements, or -1 when the text has a fault. */
    int compile() {
        fault = new FaultFinder(text).place();
        if (fault != 0) {
            return -1;
        }
        ready = text;
        Walk walk = new Walk(ready, memory, true);
        walk.program();
        return walk.statements;
    }

    int work() {
        if (ready == null) {
            return 0;
        }
        Walk walk = new Walk(ready, memory, true);
        walk.program();
        return walk.open;
    }

    boolean isReady() {
        return ready != null;
    }

    /** The number of steps, or -1 when the run fails. */
    int run() {
        Walk walk = new Walk(ready, memory.clone(), false);
        walk.program();
        if (walk.failed) {
            return -1;
        }
        memory = walk.memory;
        values = walk.names;
        return walk.steps;
    }

    int value(int name) {
        return (int) values[name];
    }

    void fill(int n, int first, int by) {
        long word = first;
        for (int k = 0; k < n; k++, word += by) {
            memory[k] = word & WORD;
        }
    }

    int mixed() {
        long all = 0;
        for (int k = 0; k < 192; k++) {
            for (int bit = 0; bit < 32; bit++) {
                all ^= (memory[k] >> bit & 1) << (bit + k) % 32;
            }
        }
        return (int) all;
    }

    /** Each symbol is a character that must stand here, or a part of the grammar by its name. */
    private static final class FaultFinder {
        private final String text;
        private final Deque<String> toCome = new ArrayDeque<>();
        private final List<Character> loopNames = new ArrayList<>();
        private final List<Integer> loopNumbers = new ArrayList<>();
        private int blocks = 0;
        private int inside = 0;
        private int at = 0;
        private int fault = 0;

        private FaultFinder(String text) {
            this.text = text + "\0";
        }

        private int place() {
            next("program", "\0");
            while (fault == 0 && !toCome.isEmpty()) {
                take(toCome.pop(), text.charAt(at));
            }
            return fault;
        }

        private void next(String... symbols) {
            for (int k = symbols.length - 1; k >= 0; k--) {
                toCome.push(symbols[k]);
            }
        }

        private void take(String symbol, char c) {
            switch (symbol) {
                case "program" -> {
                    if (c != '}' && c != 0) {
                        next("statement", "program");
                    }
                }
                case "statement" -> statement(c);
                case "loop name" -> {
                    if (!Character.isLowerCase(c) || loopNames.contains(c)) {
                        fault = at + 1;
                    }
                    loopNames.add(c);
                    at++;
                }
                case "loop number" -> {
                    int start = at;
                    long value = number(1, 64);
                    loopNumbers.add((int) value);
                    long product = 1;
                    for (int each : loopNumbers) {
                        product *= each;
                    }
                    if (fault == 0 && product > 640) {
                        fault = start + 1;
                    }
                }
                case "loop end" -> {
                    loopNames.remove(loopNames.size() - 1);
                    loopNumbers.remove(loopNumbers.size() - 1);
                }
                case "block" -> next("{", "program", "}", "block end");
                case "block end" -> blocks--;
                case "sum" -> next("turned", "more sum");
                case "more sum" -> {
                    if ("+-*&|^".indexOf(c) >= 0) {
                        at++;
                        next("turned", "more sum");
                    }
                }
                case "turned" -> next("factor", "more turns");
                case "more turns" -> {
                    if (c == '<' || c == '>') {
                        at++;
                        next("bits", "more turns");
                    }
                }
                case "bits" -> number(1, 31);
                case "factor" -> factor(c);
                case "outside" -> inside--;
                default -> {
                    if (c != symbol.charAt(0)) {
                        fault = at + 1;
                    }
                    at++;
                }
            }
        }

        private void statement(char c) {
            if (c == '@') {
                next("@", "[", "sum", "]", "=", "sum", ";");
            } else if (c == '#' || c == '?') {
                if (blocks == 8) {
                    fault = at + 1;
                }
                blocks++;
                at++;
                if (c == '#') {
                    next("loop name", "loop number", "block", "loop end");
                } else {
                    next("sum", "block");
                }
            } else if (Character.isLowerCase(c) && !loopNames.contains(c)) {
                next("" + c, "=", "sum", ";");
            } else {
                fault = at + 1;
            }
        }

        private void factor(char c) {
            if (Character.isLowerCase(c)) {
                at++;
            } else if (c == '$' || Character.isDigit(c)) {
                number(0, WORD);
            } else if ("(~@".indexOf(c) >= 0 && inside < 12) {
                inside++;
                at++;
                if (c == '(') {
                    next("sum", ")", "outside");
                } else if (c == '~') {
                    next("factor", "outside");
                } else {
                    next("[", "sum", "]", "outside");
                }
            } else {
                fault = at + 1;
            }
        }

        private long number(long least, long most) {
            String digits = digitsAt(text, at);
            if (digits.isEmpty()) {
                fault = at + 1;
                return 0;
            }
            if (digits.equals("$")) {
                fault = at + 2;
                return 0;
            }
            boolean tooMany = digits.length() > (digits.charAt(0) == '$' ? 9 : 10);
            if (tooMany || valueOf(digits) < least || valueOf(digits) > most) {
                fault = at + 1;
                return 0;
            }
            at += digits.length();
            return valueOf(digits);
        }
    }

    private static String digitsAt(String text, int at) {
        String allowed = text.charAt(at) == '$' ? "0123456789abcdef" : "0123456789";
        int end = text.charAt(at) == '$' ? at + 1 : at;
        while (allowed.indexOf(text.charAt(end)) >= 0) {
            end++;
        }
        return text.substring(at, end);
    }

    private static long valueOf(String digits) {
        return digits.charAt(0) == '$' ? Long.parseLong(digits.substring(1), 16) : Long.parseLong(digits);
    }

    /** Goes over a text without fault: to run it, or only to count what it is made of. */
    private static final class Walk {
        private final String text;
        private final long[] memory;
        private final boolean onlyCounts;
        private final long[] names = new long[26];
        private int at = 0;
        private int statements = 0;
        private int open = 0;
        private int steps = 0;
        private boolean failed = false;
        /** Whether the part of a sum that was read last has a settled value. */
        private boolean settled = false;

        private Walk(String text, long[] memory, boolean onlyCounts) {
            this.text = text + "\0";
            this.memory = memory;
            this.onlyCounts = onlyCounts;
        }

        private void program() {
            while (!failed && text.charAt(at) != '}' && text.charAt(at) != 0) {
                statements++;
                char c = text.charAt(at++);
                if (c == '#') {
                    loop();
                } else if (c == '?') {
                    branch();
                } else {
                    give(c);
                }
            }
        }

        private void give(char c) {
            long address = -1;
            if (c == '@') {
                at++;
                address = sum();
                at++;
            }
            at++;
            long word = sum();
            at++;
            steps++;
            if (c != '@') {
                names[c - 'a'] = word;
            } else if (!failed && !onlyCounts) {
                if (address > 191) {
                    failed = true;
                } else {
                    memory[(int) address] = word;
                }
            }
        }

        private void loop() {
            int name = text.charAt(at++) - 'a';
            long many = number();
            int body = at + 1;
            for (long turn = 0; turn < (onlyCounts ? 1 : many) && !failed; turn++) {
                at = body;
                names[name] = turn;
                program();
            }
            at++;
        }

        private void branch() {
            long condition = sum();
            at++;
            if (failed) {
                return;
            }
            if (condition != 0 || onlyCounts) {
                program();
                at++;
                return;
            }
            for (int deep = 1; deep > 0; at++) {
                deep += text.charAt(at) == '{' ? 1 : text.charAt(at) == '}' ? -1 : 0;
            }
        }

        private long number() {
            String digits = digitsAt(text, at);
            at += digits.length();
            return valueOf(digits);
        }

        private long sum() {
            long left = turned();
            boolean leftSettled = settled;
            while ("+-*&|^".indexOf(text.charAt(at)) >= 0) {
                char operator = text.charAt(at++);
                long right = turned();
                leftSettled = count(leftSettled && settled);
                left = switch (operator) {
                    case '+' -> left + right;
                    case '-' -> left - right;
                    case '*' -> left * right;
                    case '&' -> left & right;
                    case '|' -> left | right;
                    default -> left ^ right;
                } & WORD;
            }
            settled = leftSettled;
            return left;
        }

        private boolean count(boolean isSettled) {
            open += isSettled ? 0 : 1;
            settled = isSettled;
            return isSettled;
        }

        private long turned() {
            long word = factor();
            while (text.charAt(at) == '<' || text.charAt(at) == '>') {
                char operator = text.charAt(at++);
                long bits = number();
                count(settled);
                for (long k = 0; k < bits; k++) {
                    word = operator == '>' ? word / 2 : word * 2 % (WORD + 1) + word / (WORD / 2 + 1);
                }
            }
            return word;
        }

        private long factor() {
            char c = text.charAt(at);
            if (c == '$' || Character.isDigit(c)) {
                settled = true;
                return number();
            }
            at++;
            if (c == '(') {
                long word = sum();
                at++;
                return word;
            }
            if (c == '~') {
                long word = factor();
                count(settled);
                return WORD - word;
            }
            if (c == '@') {
                at++;
                long address = sum();
                at++;
                settled = false;
                failed |= !onlyCounts && address > 191;
                return address > 191 ? 0 : memory[(int) address];
            }
            settled = false;
            return names[c - 'a'];
        }
    }
}
