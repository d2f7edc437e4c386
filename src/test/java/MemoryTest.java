/** Promises 9 to 12: poke, peek, fill, mixed. */
public final class MemoryTest {
    private static final Class<IndexOutOfBoundsException> OUTSIDE = IndexOutOfBoundsException.class;
    private static final int[] NO_ADDRESS = {-1, 192, 193, -192, Integer.MIN_VALUE, Integer.MAX_VALUE};

    public static void main(String[] args) {
        Check.all(
                MemoryTest::pokeAndPeek,
                MemoryTest::wrongAddresses,
                MemoryTest::fillWritesARow,
                MemoryTest::fillWraps,
                MemoryTest::fillRefuses,
                MemoryTest::mixedTurnsByAddress);
    }

    private static void pokeAndPeek() {
        RoundCompiler x = new RoundCompiler();
        for (int address = 0; address < 192; address++) {
            x.poke(address, address * 77 - 1000);
        }
        for (int address = 0; address < 192; address++) {
            Check.due("peek(" + address + ")", x.peek(address), address * 77 - 1000);
        }
        x.poke(0, Integer.MIN_VALUE);
        x.poke(191, Integer.MAX_VALUE);
        Check.due("peek(0)", x.peek(0), Integer.MIN_VALUE);
        Check.due("peek(191)", x.peek(191), Integer.MAX_VALUE);
        Check.due("peek(1)", x.peek(1), -923);
        Check.due("work() stays", x.work(), 0);
    }

    private static void wrongAddresses() {
        RoundCompiler x = new RoundCompiler();
        x.fill(192, 5, 3);
        int before = x.mixed();
        for (int address : NO_ADDRESS) {
            Check.dueThrow("poke(" + address + ")", OUTSIDE, () -> x.poke(address, 9));
            Check.dueThrow("peek(" + address + ")", OUTSIDE, () -> x.peek(address));
        }
        Check.due("mixed() stays", x.mixed(), before);
    }

    private static void fillWritesARow() {
        RoundCompiler x = new RoundCompiler();
        x.fill(192, -1, 0);
        x.fill(5, 10, 3);
        for (int k = 0; k < 192; k++) {
            Check.due("peek(" + k + ")", x.peek(k), k < 5 ? 10 + 3 * k : -1);
        }
        x.fill(0, 77, 77);
        Check.due("word 0 behind fill(0, ..)", x.peek(0), 10);
        x.fill(1, 77, 88);
        Check.due("word 0 behind fill(1, ..)", x.peek(0), 77);
        Check.due("word 1 behind fill(1, ..)", x.peek(1), 13);
        x.fill(192, 100, -2);
        Check.due("word 191", x.peek(191), 100 - 382);
    }

    private static void fillWraps() {
        RoundCompiler x = new RoundCompiler();
        x.fill(192, Integer.MAX_VALUE, Integer.MAX_VALUE);
        for (int k = 0; k < 192; k++) {
            long exact = Integer.MAX_VALUE + k * (long) Integer.MAX_VALUE;
            Check.due("peek(" + k + ")", x.peek(k), (int) exact);
        }
    }

    private static void fillRefuses() {
        RoundCompiler x = new RoundCompiler();
        x.fill(192, 1, 1);
        int before = x.mixed();
        int[] wrong = {-1, 193, 194, Integer.MIN_VALUE, Integer.MAX_VALUE};
        for (int n : wrong) {
            Check.dueThrow("fill(" + n + ", ..)", IllegalArgumentException.class, () -> x.fill(n, 7, 7));
        }
        Check.due("mixed() stays", x.mixed(), before);
    }

    private static void mixedTurnsByAddress() {
        int[] words = {1, 0x80000001, 0x12345678, -1};
        for (int address = 0; address < 192; address++) {
            for (int word : words) {
                RoundCompiler x = new RoundCompiler();
                x.poke(address, word);
                Check.due("mixed() of " + word + " at " + address, x.mixed(),
                        Integer.rotateLeft(word, address % 32));
            }
        }
        RoundCompiler x = new RoundCompiler();
        x.poke(0, 5);
        x.poke(32, 5);
        Check.due("mixed() of two that meet", x.mixed(), 0);
        x.poke(1, 5);
        Check.due("mixed() of three", x.mixed(), 10);
        Check.due("mixed() again", x.mixed(), 10);
    }
}
