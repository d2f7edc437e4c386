/** What the tests share: answers are compared here, and texts are written into an object. */
final class Check {
    /** A call that may throw. */
    interface Call {
        void make();
    }

    private static final int MOST_REPORTS = 10;

    private static int wrong = 0;
    private static String sentence = "";
    private static int reports = 0;

    private Check() {
    }

    /** Makes each part of a test; what one of them throws does not keep the next from its turn. */
    static void all(Call... parts) {
        for (Call part : parts) {
            sentence = "";
            reports = 0;
            try {
                part.make();
            } catch (RuntimeException e) {
                report("a call threw " + e);
                e.printStackTrace(System.out);
            }
        }
        end();
    }

    /** The sentence of the document that the next comparisons are about. */
    static void sentence(String words) {
        sentence = "\"" + words + "\": ";
    }

    static void due(String what, long got, long want) {
        if (got != want) {
            report(what + " answered " + got + ", due is " + want);
        }
    }

    static void due(String what, boolean got, boolean want) {
        due(what, got ? 1 : 0, want ? 1 : 0);
    }

    /** The very class is due: what the machine throws by itself is often a class below it. */
    static void dueThrow(String what, Class<? extends RuntimeException> want, Call call) {
        try {
            call.make();
        } catch (RuntimeException e) {
            if (e.getClass() != want) {
                report(what + " threw " + e + ", due is " + want.getName());
            }
            return;
        }
        report(what + " threw nothing, due is " + want.getName());
    }

    static void report(String message) {
        wrong++;
        reports++;
        if (reports <= MOST_REPORTS) {
            System.out.println(sentence + message);
        }
    }

    static void end() {
        System.out.println(wrong == 0 ? "all answers are as due" : wrong + " answers are not as due");
        if (wrong != 0) {
            System.exit(1);
        }
    }

    /** The characters as the bytes of a long, the first one the lowest. */
    static long packed(String eight) {
        long all = 0;
        for (int k = eight.length() - 1; k >= 0; k--) {
            all = all << 8 | eight.charAt(k);
        }
        return all;
    }

    static void append(RoundCompiler x, String text) {
        for (int from = 0; from < text.length(); from += 8) {
            String part = text.substring(from, Math.min(text.length(), from + 8));
            due("write of " + part, x.write(packed(part)), true);
        }
    }

    static void replace(RoundCompiler x, String text) {
        x.wipe();
        append(x, text);
    }

    /** An object for which this text is ready. */
    static RoundCompiler compiled(String text) {
        RoundCompiler x = new RoundCompiler();
        append(x, text);
        try {
            x.compile();
        } catch (IllegalArgumentException e) {
            report(text + " has a fault at " + x.fault() + ", due is none");
        }
        return x;
    }

    static RoundCompiler ran(String text) {
        RoundCompiler x = compiled(text);
        try {
            x.run();
        } catch (IndexOutOfBoundsException | IllegalStateException e) {
            report("run() of " + text + " threw " + e + ", due is an answer");
        }
        return x;
    }

    static void dueFault(String text, int place) {
        RoundCompiler x = new RoundCompiler();
        append(x, text);
        dueThrow("compile() of " + text, IllegalArgumentException.class, () -> x.compile());
        due("fault() of " + text, x.fault(), place);
    }

    static void dueStatements(String text, int statements) {
        RoundCompiler x = new RoundCompiler();
        append(x, text);
        int got = -1;
        try {
            got = x.compile();
        } catch (IllegalArgumentException e) {
            report(text + " has a fault at " + x.fault() + ", due is none");
        }
        due("compile() of " + text, got, statements);
        due("fault() of " + text, x.fault(), 0);
    }

    static void dueWork(String text, int want) {
        due("work() of " + text, compiled(text).work(), want);
    }

    static void dueSteps(String text, int want) {
        dueSteps(text, compiled(text), want);
    }

    static void dueSteps(String what, RoundCompiler x, int want) {
        try {
            due("run() of " + what, x.run(), want);
        } catch (IndexOutOfBoundsException | IllegalStateException e) {
            report("run() of " + what + " threw " + e + ", due is " + want);
        }
    }

    static void dueFail(String text) {
        RoundCompiler x = compiled(text);
        dueThrow("run() of " + text, IndexOutOfBoundsException.class, () -> x.run());
    }

    static void dueValue(String text, char name, int want) {
        due("value of " + name + " by " + text, ran(text).value(name - 'a'), want);
    }

    /**
     * All that calls without a change can tell of an object. It takes 221 calls, so two of them are
     * well within the 512 for which an object is promised to answer.
     */
    static String stateOf(RoundCompiler x) {
        StringBuilder all = new StringBuilder();
        all.append("fault ").append(x.fault()).append(", work ").append(x.work());
        all.append(", mixed ").append(x.mixed()).append(", names");
        for (int name = 0; name < 26; name++) {
            all.append(' ').append(x.value(name));
        }
        all.append(", words");
        for (int address = 0; address < 192; address++) {
            all.append(' ').append(x.peek(address));
        }
        return all.toString();
    }

    static void dueState(String what, RoundCompiler x, String want) {
        String got = stateOf(x);
        if (!got.equals(want)) {
            report(what + " left " + got + ", due is " + want);
        }
    }
}
