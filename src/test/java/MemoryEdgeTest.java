/** The edges of poke, peek, fill and mixed. */
public final class MemoryEdgeTest {
    private static final Class<IndexOutOfBoundsException> OUTSIDE = IndexOutOfBoundsException.class;
    private static final int[] NO_ADDRESSES =
            {-1, -2, -192, 192, 193, 255, 256, 1 << 16, Integer.MIN_VALUE, Integer.MAX_VALUE};
    private static final int[] WORDS = {0, 1, -1, Integer.MIN_VALUE, Integer.MAX_VALUE, 0x80000001};

    public static void main(String[] args) {
        Check.all(
                MemoryEdgeTest::pokeMakesTheWord,
                MemoryEdgeTest::pokeOutside,
                MemoryEdgeTest::peekAnswersTheWord,
                MemoryEdgeTest::peekOutside,
                MemoryEdgeTest::fillOfNone,
                MemoryEdgeTest::fillOfAll,
                MemoryEdgeTest::fillLeavesTheRest,
                MemoryEdgeTest::fillWraps,
                MemoryEdgeTest::fillOfTooManyOrTooFew,
                MemoryEdgeTest::mixedOfOneWord,
                MemoryEdgeTest::mixedOfAllWords,
                MemoryEdgeTest::mixedModulo32);
    }

    /** An object of which all that can be told is not 0. */
    private static RoundCompiler used() {
        RoundCompiler x = Check.ran("a=b+3;z=4;");
        x.fill(192, 5, 7);
        Check.append(x, "!");
        Check.dueThrow("compile()", IllegalArgumentException.class, () -> x.compile());
        return x;
    }

    private static void pokeMakesTheWord() {
        Check.sentence("The word at an address becomes w.");
        for (int address = 0; address < 192; address++) {
            RoundCompiler x = new RoundCompiler();
            x.fill(192, 100, 1);
            x.poke(address, -7);
            for (int other = 0; other < 192; other++) {
                Check.due("peek(" + other + ") of poke(" + address + ", -7)", x.peek(other),
                        other == address ? -7 : 100 + other);
            }
        }
        RoundCompiler y = used();
        for (int word : WORDS) {
            y.poke(0, word);
            y.poke(191, ~word);
            Check.due("peek(0)", y.peek(0), word);
            Check.due("peek(191)", y.peek(191), ~word);
        }
        Check.due("value(0) stays", y.value(0), 3);
        Check.due("work() stays", y.work(), 1);
        Check.due("fault() stays", y.fault(), 11);
    }

    private static void pokeOutside() {
        Check.sentence("The word at an address becomes w. IndexOutOfBoundsException when there is no such address.");
        for (int address : NO_ADDRESSES) {
            RoundCompiler x = used();
            String before = Check.stateOf(x);
            Check.dueThrow("poke(" + address + ", 9)", OUTSIDE, () -> x.poke(address, 9));
            Check.dueState("poke(" + address + ", 9)", x, before);
        }
        RoundCompiler y = new RoundCompiler();
        y.poke(0, 1);
        y.poke(191, 1);
        Check.dueThrow("poke(-1, 0)", OUTSIDE, () -> y.poke(-1, 0));
        Check.dueThrow("poke(192, 0)", OUTSIDE, () -> y.poke(192, 0));
    }

    private static void peekAnswersTheWord() {
        Check.sentence("The word at an address.");
        RoundCompiler x = Check.ran("@[0]=5;@[191]=4294967295;@[100]=$80000000;");
        Check.due("peek(0)", x.peek(0), 5);
        Check.due("peek(191)", x.peek(191), -1);
        Check.due("peek(100)", x.peek(100), Integer.MIN_VALUE);
        Check.due("peek(1)", x.peek(1), 0);
        RoundCompiler y = used();
        String before = Check.stateOf(y);
        y.peek(0);
        y.peek(191);
        Check.dueState("peek", y, before);
    }

    private static void peekOutside() {
        Check.sentence("The word at an address. IndexOutOfBoundsException when there is no such address.");
        RoundCompiler x = used();
        String before = Check.stateOf(x);
        for (int address : NO_ADDRESSES) {
            Check.dueThrow("peek(" + address + ")", OUTSIDE, () -> x.peek(address));
        }
        Check.dueState("peek outside", x, before);
        Check.dueThrow("peek(192) of a new object", OUTSIDE, () -> new RoundCompiler().peek(192));
        Check.dueThrow("peek(-1) of a new object", OUTSIDE, () -> new RoundCompiler().peek(-1));
    }

    private static void fillOfNone() {
        Check.sentence("Writes n words, 0 .. 192");
        RoundCompiler x = used();
        String before = Check.stateOf(x);
        x.fill(0, -1, -1);
        Check.dueState("fill(0, -1, -1)", x, before);
    }

    private static void fillOfAll() {
        Check.sentence("Writes n words, 0 .. 192");
        RoundCompiler x = used();
        x.fill(192, -50, 3);
        for (int k = 0; k < 192; k++) {
            Check.due("peek(" + k + ")", x.peek(k), -50 + 3 * k);
        }
        Check.due("value(0) stays", x.value(0), 3);
        Check.due("work() stays", x.work(), 1);
        Check.due("fault() stays", x.fault(), 11);
    }

    private static void fillLeavesTheRest() {
        Check.sentence("of a row into memory from address 0 on: word k is first + k * by");
        for (int n = 0; n <= 192; n++) {
            RoundCompiler x = new RoundCompiler();
            x.fill(192, -9, 0);
            x.fill(n, 20, -3);
            for (int k = 0; k < 192; k++) {
                Check.due("peek(" + k + ") of fill(" + n + ", 20, -3)", x.peek(k), k < n ? 20 - 3 * k : -9);
            }
        }
    }

    private static void fillWraps() {
        Check.sentence("word k is first + k * by (wrapping)");
        for (int first : WORDS) {
            for (int by : WORDS) {
                RoundCompiler x = new RoundCompiler();
                x.fill(192, first, by);
                for (int k = 0; k < 192; k++) {
                    long exact = first + k * (long) by;
                    Check.due("peek(" + k + ") of fill(192, " + first + ", " + by + ")", x.peek(k), (int) exact);
                }
            }
        }
    }

    private static void fillOfTooManyOrTooFew() {
        Check.sentence("IllegalArgumentException when n is not so.");
        for (int n : new int[] {-1, -2, -192, 193, 194, 256, 1 << 16, Integer.MIN_VALUE, Integer.MAX_VALUE}) {
            RoundCompiler x = used();
            String before = Check.stateOf(x);
            Check.dueThrow("fill(" + n + ", 1, 1)", IllegalArgumentException.class, () -> x.fill(n, 1, 1));
            Check.dueThrow("fill(" + n + ", 0, 0)", IllegalArgumentException.class, () -> x.fill(n, 0, 0));
            Check.dueState("fill(" + n + ", ..)", x, before);
        }
    }

    private static void mixedOfOneWord() {
        Check.sentence("each turned to the left by its address modulo 32.");
        for (int address = 0; address < 192; address++) {
            for (int bit = 0; bit < 32; bit++) {
                RoundCompiler x = new RoundCompiler();
                x.poke(address, 1 << bit);
                Check.due("mixed() of bit " + bit + " at " + address, x.mixed(), 1 << (bit + address) % 32);
            }
        }
    }

    private static void mixedOfAllWords() {
        Check.sentence("All words of memory together, by exclusive or");
        RoundCompiler none = new RoundCompiler();
        Check.due("mixed() of zeros", none.mixed(), 0);
        // Six words meet in each place, so their bits are all even in number.
        none.fill(192, -1, 0);
        Check.due("mixed() of 192 times -1", none.mixed(), 0);
        none.poke(191, 0);
        Check.due("mixed() of 191 times -1", none.mixed(), -1);
        RoundCompiler x = new RoundCompiler();
        x.fill(192, 0x12345678, 0x9abcdef1);
        int want = 0;
        for (int k = 0; k < 192; k++) {
            want ^= Integer.rotateLeft(x.peek(k), k % 32);
        }
        Check.due("mixed() of a row", x.mixed(), want);
        RoundCompiler y = used();
        String before = Check.stateOf(y);
        y.mixed();
        Check.dueState("mixed()", y, before);
    }

    private static void mixedModulo32() {
        Check.sentence("by its address modulo 32");
        RoundCompiler x = new RoundCompiler();
        for (int address : new int[] {31, 32, 33, 63, 64, 191}) {
            x.poke(address, 1);
            Check.due("mixed() of 1 at " + address, x.mixed(), 1 << address % 32);
            x.poke(address, 0);
        }
        x.poke(0, 5);
        x.poke(160, 5);
        Check.due("mixed() of two that meet", x.mixed(), 0);
        x.poke(191, 1);
        Check.due("mixed() with the last word", x.mixed(), Integer.MIN_VALUE);
    }
}
