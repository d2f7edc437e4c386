/** Long runs of made-up calls, each answer compared with the model's: all promises together. */
public final class ModelTest {
    private static final String CHARACTERS = "abij0123456789$+-*&|^<>~()@[]=;#?{}!zA";
    private static final int TEXTS = 60000;
    private static final int RUNS = 400;
    /** An object promises nothing for more calls. */
    private static final int MOST_CALLS = 512;

    private static long state = 20261115L;
    private static int calls = 0;

    public static void main(String[] args) {
        int faulty = 0;
        int failing = 0;
        for (int k = 0; k < TEXTS; k++) {
            String text = someText();
            RoundCompiler x = newObject();
            Model model = new Model();
            append(x, model, text);
            compile(x, model);
            faulty += model.fault == 0 ? 0 : 1;
            work(x, model);
            fill(x, model, 192, below(7), below(3));
            failing += run(x, model) ? 0 : 1;
            compareAll(x, model);
        }
        for (int k = 0; k < RUNS; k++) {
            RoundCompiler x = newObject();
            Model model = new Model();
            while (calls < MOST_CALLS) {
                someCall(x, model);
            }
        }
        // The comparison means little if the texts are all of one sort.
        Check.due("enough texts have a fault", faulty > TEXTS / 5 && faulty < TEXTS * 4 / 5, true);
        Check.due("enough runs fail or cannot begin", failing > TEXTS / 5 && failing < TEXTS * 9 / 10, true);
        Check.end();
    }

    private static RoundCompiler newObject() {
        calls = 0;
        return new RoundCompiler();
    }

    /** Counts a call of the object that is in use; false if it is one too many. */
    private static boolean mayCall() {
        calls++;
        return calls <= MOST_CALLS;
    }

    /** The same numbers each time: a test that fails must fail again. */
    private static int below(int bound) {
        state = state * 6364136223846793005L + 1442695040888963407L;
        return (int) ((state >>> 33) % bound);
    }

    private static int someWord() {
        return below(3) == 0 ? below(200) : below(65536) << 16 | below(65536);
    }

    private static void append(RoundCompiler x, Model model, String text) {
        int from = 0;
        while (from < text.length()) {
            int to = Math.min(text.length(), from + 1 + below(8));
            write(x, model, Check.packed(text.substring(from, to)));
            from = to;
        }
    }

    private static void write(RoundCompiler x, Model model, long characters) {
        if (mayCall()) {
            Check.due("write(" + characters + ")", x.write(characters), model.write(characters));
        }
    }

    private static void wipe(RoundCompiler x, Model model) {
        if (mayCall()) {
            x.wipe();
            model.text = "";
        }
    }

    private static void compile(RoundCompiler x, Model model) {
        if (!mayCall()) {
            return;
        }
        int want = model.compile();
        if (want < 0) {
            Check.dueThrow("compile() of " + model.text, IllegalArgumentException.class, () -> x.compile());
        } else {
            try {
                Check.due("compile() of " + model.text, x.compile(), want);
            } catch (IllegalArgumentException e) {
                Check.report("compile() of " + model.text + " met a fault, due is none");
            }
        }
        fault(x, model);
    }

    private static void fault(RoundCompiler x, Model model) {
        if (mayCall()) {
            Check.due("fault() of " + model.text, x.fault(), model.fault);
        }
    }

    private static void work(RoundCompiler x, Model model) {
        if (mayCall()) {
            Check.due("work() with " + model.text, x.work(), model.work());
        }
    }

    private static void mixed(RoundCompiler x, Model model) {
        if (mayCall()) {
            Check.due("mixed() by " + model.text, x.mixed(), model.mixed());
        }
    }

    private static boolean run(RoundCompiler x, Model model) {
        if (!mayCall()) {
            return false;
        }
        if (!model.isReady()) {
            Check.dueThrow("run() of none", IllegalStateException.class, () -> x.run());
            return false;
        }
        int want = model.run();
        if (want < 0) {
            Check.dueThrow("run() of " + model.text, IndexOutOfBoundsException.class, () -> x.run());
            return false;
        }
        try {
            Check.due("run() of " + model.text, x.run(), want);
        } catch (IndexOutOfBoundsException e) {
            Check.report("run() of " + model.text + " failed, due is " + want);
        }
        return true;
    }

    private static void fill(RoundCompiler x, Model model, int n, int first, int by) {
        if (!mayCall()) {
            return;
        }
        if (n < 0 || n > 192) {
            Check.dueThrow("fill(" + n + ")", IllegalArgumentException.class, () -> x.fill(n, first, by));
        } else {
            x.fill(n, first, by);
            model.fill(n, first, by);
        }
    }

    private static void compareAll(RoundCompiler x, Model model) {
        mixed(x, model);
        for (int name = 0; name < 26; name++) {
            value(x, model, name);
        }
        for (int address = 0; address < 192; address++) {
            peek(x, model, address);
        }
    }

    private static void someCall(RoundCompiler x, Model model) {
        switch (below(14)) {
            case 0 -> {
                wipe(x, model);
                append(x, model, someText());
            }
            case 1 -> write(x, model, below(3) == 0 ? someWord() : Check.packed("a=a+1;i=".substring(0, below(9))));
            case 2, 3 -> compile(x, model);
            case 4 -> work(x, model);
            case 5, 6 -> run(x, model);
            case 7 -> poke(x, model, below(210) - 9, someWord());
            case 8 -> peek(x, model, below(210) - 9);
            case 9 -> fill(x, model, below(210) - 9, someWord(), someWord());
            case 10 -> value(x, model, below(30) - 2);
            case 11 -> fault(x, model);
            case 12 -> mixed(x, model);
            default -> append(x, model, someText());
        }
    }

    private static void poke(RoundCompiler x, Model model, int address, int word) {
        if (!mayCall()) {
            return;
        }
        if (address < 0 || address > 191) {
            Check.dueThrow("poke(" + address + ")", IndexOutOfBoundsException.class, () -> x.poke(address, word));
        } else {
            x.poke(address, word);
            model.memory[address] = word & 0xffffffffL;
        }
    }

    private static void peek(RoundCompiler x, Model model, int address) {
        if (!mayCall()) {
            return;
        }
        if (address < 0 || address > 191) {
            Check.dueThrow("peek(" + address + ")", IndexOutOfBoundsException.class, () -> x.peek(address));
        } else {
            Check.due("peek(" + address + ") by " + model.text, x.peek(address), (int) model.memory[address]);
        }
    }

    private static void value(RoundCompiler x, Model model, int name) {
        if (!mayCall()) {
            return;
        }
        if (name < 0 || name > 25) {
            Check.dueThrow("value(" + name + ")", IndexOutOfBoundsException.class, () -> x.value(name));
        } else {
            Check.due("value(" + name + ") by " + model.text, x.value(name), model.value(name));
        }
    }

    /** A program, at times with a character or two of it changed, and never too long. */
    private static String someText() {
        StringBuilder text = new StringBuilder();
        int statements = below(8);
        for (int k = 0; k < statements; k++) {
            addStatement(text, 0, "");
        }
        while (text.length() > 470) {
            text.setLength(below(470));
        }
        int changes = below(2) == 0 ? 0 : 1 + below(2);
        for (int k = 0; k < changes; k++) {
            change(text);
        }
        return text.toString();
    }

    private static void change(StringBuilder text) {
        char c = CHARACTERS.charAt(below(CHARACTERS.length()));
        int at = below(text.length() + 1);
        switch (below(4)) {
            case 0 -> text.insert(at, c);
            case 1 -> text.setLength(at);
            case 2 -> text.insert(at, String.valueOf(c).repeat(1 + below(10)));
            default -> {
                if (at < text.length()) {
                    text.setCharAt(at, c);
                }
            }
        }
    }

    private static void addStatement(StringBuilder text, int blocks, String loops) {
        int sort = below(blocks > 7 ? 40 : 10);
        if (sort == 0 || sort == 1) {
            char name = freeName(loops);
            text.append('#').append(name).append(below(60) == 0 ? below(70) : 1 + below(4)).append('{');
            addBlock(text, blocks + 1, loops + name);
        } else if (sort == 2 || sort == 3) {
            text.append('?');
            addSum(text, 0);
            text.append('{');
            addBlock(text, blocks + 1, loops);
        } else if (sort < 7) {
            text.append("@[");
            addAddress(text, 0);
            text.append("]=");
            addSum(text, 0);
            text.append(';');
        } else {
            text.append(freeName(loops)).append('=');
            addSum(text, 0);
            text.append(';');
        }
    }

    private static void addBlock(StringBuilder text, int blocks, String loops) {
        int statements = below(3) + (below(3) == 0 ? 0 : 1);
        for (int k = 0; k < statements && text.length() < 400; k++) {
            addStatement(text, blocks, loops);
        }
        text.append('}');
    }

    /** Seldom the name of a loop around, so that this fault comes up too. */
    private static char freeName(String loops) {
        char name = (char) ('a' + below(26));
        return loops.indexOf(name) < 0 || below(20) == 0 ? name : (char) ('a' + below(26));
    }

    private static void addAddress(StringBuilder text, int inside) {
        if (below(8) == 0) {
            addSum(text, inside);
        } else if (below(2) == 0) {
            text.append(below(30) == 0 ? 185 + below(10) : below(192));
        } else {
            addSum(text, inside);
            text.append("&").append(below(10) == 0 ? 255 : 127);
        }
    }

    private static void addSum(StringBuilder text, int inside) {
        int parts = below(5) == 0 ? 3 : 1 + below(2);
        for (int k = 0; k < parts; k++) {
            if (k > 0) {
                text.append("+-*&|^".charAt(below(6)));
            }
            addFactor(text, inside);
            for (int turns = below(5) / 3; turns > 0; turns--) {
                text.append("<>".charAt(below(2))).append(below(40) == 0 ? below(40) : 1 + below(31));
            }
        }
    }

    private static void addFactor(StringBuilder text, int inside) {
        int sort = below(inside > 12 ? 4 : 8);
        if (sort < 2) {
            text.append((char) ('a' + below(26)));
        } else if (sort == 2) {
            text.append(below(4) == 0 ? (someWord() & 0xffffffffL) : below(300));
        } else if (sort == 3) {
            text.append('$').append(Integer.toHexString(someWord()));
        } else if (sort < 6) {
            text.append('~');
            addFactor(text, inside + 1);
        } else if (sort == 6) {
            text.append('(');
            addSum(text, inside + 1);
            text.append(')');
        } else {
            text.append("@[");
            addAddress(text, inside + 1);
            text.append(']');
        }
    }
}
