/** The edges of a new object, the text, its grammar, write and wipe: a method for each sentence. */
public final class TextEdgeTest {
    private static final Class<IllegalArgumentException> REFUSED = IllegalArgumentException.class;
    private static final Class<IllegalStateException> NOT_READY = IllegalStateException.class;
    private static final int[] NO_CHARACTERS = {1, 9, 10, 31, 32, 127, 128, 160, 161, 254, 255};

    public static void main(String[] args) {
        Check.all(
                TextEdgeTest::callsOfAnObject,
                TextEdgeTest::callsThatThrowCountToo,
                TextEdgeTest::newText,
                TextEdgeTest::newReady,
                TextEdgeTest::newMemory,
                TextEdgeTest::mostCharacters,
                TextEdgeTest::charactersFrom33To126,
                TextEdgeTest::placesBeginAtOne,
                TextEdgeTest::programOfNoStatements,
                TextEdgeTest::statementsOfEachSort,
                TextEdgeTest::sumsOfOneAndOfMany,
                TextEdgeTest::turnsOfNoneAndOfMany,
                TextEdgeTest::factorsOfEachSort,
                TextEdgeTest::namesFromAToZ,
                TextEdgeTest::numbersOfOneToTenDigits,
                TextEdgeTest::numbersUpToTheGreatest,
                TextEdgeTest::numbersToTheBase16,
                TextEdgeTest::digitsTogether,
                TextEdgeTest::writeLowestFirst,
                TextEdgeTest::writeLeavesOutZeros,
                TextEdgeTest::writeRefusesOtherBytes,
                TextEdgeTest::writeRefusesMoreThan480,
                TextEdgeTest::wipeMakesEmpty,
                TextEdgeTest::wipeLeavesWhatIsReady);
    }

    private static void callsOfAnObject() {
        Check.sentence("An object is used for at most 512 calls after it has been made");
        RoundCompiler x = new RoundCompiler();
        x.write(Check.packed("@[0]=@[0"));
        x.write(Check.packed("]+1;"));
        x.compile();
        for (int call = 4; call < 512; call++) {
            Check.due("run(), call " + call, x.run(), 1);
        }
        Check.due("peek(0), call 512", x.peek(0), 508);
        RoundCompiler y = new RoundCompiler();
        for (int call = 1; call <= 508; call++) {
            Check.due("write, call " + call, y.write(Check.packed("a=" + call % 10 + ";")), call <= 120);
        }
        Check.due("compile(), call 509", y.compile(), 120);
        Check.due("run(), call 510", y.run(), 120);
        y.wipe();
        Check.due("compile(), call 512", y.compile(), 0);
    }

    private static void callsThatThrowCountToo() {
        Check.sentence("An object is used for at most 512 calls after it has been made");
        RoundCompiler x = new RoundCompiler();
        x.write(Check.packed("a=@[192]"));
        for (int call = 2; call <= 101; call++) {
            Check.dueThrow("compile(), call " + call, REFUSED, () -> x.compile());
        }
        x.write(Check.packed(";"));
        x.compile();
        for (int call = 104; call <= 511; call++) {
            Check.dueThrow("run(), call " + call, IndexOutOfBoundsException.class, () -> x.run());
        }
        Check.due("value(0), call 512", x.value(0), 0);
    }

    private static void newText() {
        Check.sentence("The text is empty");
        RoundCompiler x = new RoundCompiler();
        Check.due("compile()", x.compile(), 0);
        RoundCompiler y = new RoundCompiler();
        Check.append(y, "!");
        Check.dueThrow("compile() of !", REFUSED, () -> y.compile());
        Check.due("fault() of !", y.fault(), 1);
        Check.append(new RoundCompiler(), "a".repeat(480));
    }

    private static void newReady() {
        Check.sentence("nothing is ready");
        RoundCompiler x = new RoundCompiler();
        Check.dueThrow("run()", NOT_READY, () -> x.run());
        Check.due("work()", x.work(), 0);
        Check.append(x, "a=b+c;");
        Check.dueThrow("run() of a text that is not compiled", NOT_READY, () -> x.run());
        Check.due("work() of a text that is not compiled", x.work(), 0);
        Check.due("fault()", x.fault(), 0);
    }

    private static void newMemory() {
        Check.sentence("memory is all 0");
        RoundCompiler x = new RoundCompiler();
        for (int address = 0; address < 192; address++) {
            Check.due("peek(" + address + ")", x.peek(address), 0);
        }
        Check.due("mixed()", x.mixed(), 0);
        for (int name = 0; name < 26; name++) {
            Check.due("value(" + name + ")", x.value(name), 0);
        }
    }

    /** So many characters of a program that is whole at each fourth one. */
    private static RoundCompiler written(int characters) {
        RoundCompiler x = new RoundCompiler();
        Check.append(x, "a=1;".repeat(120).substring(0, characters));
        return x;
    }

    private static void mostCharacters() {
        Check.sentence("THE TEXT has at most 480 characters");
        Check.due("compile() of 480", written(480).compile(), 120);
        for (int length = 470; length <= 480; length++) {
            for (int more = 0; more <= 8; more++) {
                RoundCompiler x = written(length);
                long characters = Check.packed("b=2;c=3;".substring(0, more));
                Check.due("write of " + length + " + " + more, x.write(characters), length + more <= 480);
            }
        }
    }

    private static void charactersFrom33To126() {
        Check.sentence("characters, 33 .. 126");
        for (int k = 0; k < 8; k++) {
            for (int no : NO_CHARACTERS) {
                Check.due("write of byte " + no + " at " + k, new RoundCompiler().write((long) no << 8 * k), false);
            }
            Check.due("write of byte 33 at " + k, new RoundCompiler().write(33L << 8 * k), true);
            Check.due("write of byte 126 at " + k, new RoundCompiler().write(126L << 8 * k), true);
        }
        Check.due("write of eight 33", new RoundCompiler().write(0x2121212121212121L), true);
        Check.due("write of eight 126", new RoundCompiler().write(0x7e7e7e7e7e7e7e7eL), true);
        Check.due("write of eight 32", new RoundCompiler().write(0x2020202020202020L), false);
        Check.due("write of eight 127", new RoundCompiler().write(0x7f7f7f7f7f7f7f7fL), false);
        for (int character = 33; character <= 126; character++) {
            Check.due("write of " + character, new RoundCompiler().write(character), true);
        }
    }

    private static void placesBeginAtOne() {
        Check.sentence("its places are 1, 2, ..");
        Check.dueFault("!", 1);
        Check.dueFault("a!", 2);
        Check.dueFault("a=1;".repeat(119) + "a=1!", 480);
        RoundCompiler x = new RoundCompiler();
        x.write(0x2100_0000_3b31_3d61L);
        Check.dueThrow("compile() of a=1;! with zeros in it", REFUSED, () -> x.compile());
        Check.due("fault() of a=1;! with zeros in it", x.fault(), 5);
    }

    private static void programOfNoStatements() {
        Check.sentence("program = { statement }");
        Check.dueStatements("", 0);
        Check.dueSteps("", 0);
        Check.dueStatements("#i1{}", 1);
        Check.dueStatements("?1{}", 1);
        Check.dueStatements("a=1;".repeat(120), 120);
        Check.dueStatements("?1{}".repeat(120), 120);
        Check.dueStatements("?1{" + "a=1;".repeat(119) + "}", 120);
        Check.dueSteps("a=1;".repeat(120), 120);
        Check.dueFault("a=1;".repeat(119) + "}", 477);
    }

    private static void statementsOfEachSort() {
        Check.sentence("statement = name = sum ;      or  @ [ sum ] = sum ;"
                + "      or  # name number { program }  (a LOOP)      or  ? sum { program }  (a BRANCH)");
        Check.dueStatements("a=b;@[c]=d;#e2{f=g;}?h{i=j;}", 6);
        dueFaultAtEachPlace("a=b;");
        dueFaultAtEachPlace("@[b]=c;");
        dueFaultAtEachPlace("#i2{}");
        dueFaultAtEachPlace("?a{}");
    }

    /** Each character of the text must be as it is: another one is the fault. */
    private static void dueFaultAtEachPlace(String text) {
        for (int k = 0; k < text.length(); k++) {
            Check.dueFault(text.substring(0, k) + '!' + text.substring(k + 1), k + 1);
        }
    }

    private static void sumsOfOneAndOfMany() {
        Check.sentence("sum = turned { op turned }, op being one of + - * & | ^");
        Check.dueStatements("a=b;", 1);
        for (char operator = 33; operator < 127; operator++) {
            String text = "a=b" + operator + "c;";
            if ("+-*&|^".indexOf(operator) >= 0) {
                Check.dueStatements(text, 1);
            } else if (operator == ';') {
                Check.dueFault(text, 6);
            } else if (operator == '<' || operator == '>') {
                Check.dueFault(text, 5);
            } else {
                Check.dueFault(text, 4);
            }
        }
        Check.dueWork("a=b" + "+b".repeat(238) + ";", 238);
        Check.dueValue("b=1;a=b" + "+b".repeat(236) + ";", 'a', 237);
        Check.dueValue("a=1" + "+1".repeat(238) + ";", 'a', 239);
    }

    private static void turnsOfNoneAndOfMany() {
        Check.sentence("turned = factor { < number  or  > number }");
        Check.dueStatements("a=b;", 1);
        Check.dueWork("a=b" + "<1".repeat(238) + ";", 238);
        Check.dueValue("b=1;a=b" + "<1".repeat(236) + ";", 'a', 1 << 236 % 32);
        Check.dueValue("b=1;a=b<3>3<3>2;", 'a', 2);
        Check.dueFault("a=b<;", 5);
        Check.dueFault("a=b>;", 5);
        Check.dueFault("a=<1;", 3);
        Check.dueFault("a=b<c;", 5);
        Check.dueFault("a=b>~1;", 5);
    }

    private static void factorsOfEachSort() {
        Check.sentence("factor = name, number, ~ factor, ( sum ), or @ [ sum ]");
        Check.dueStatements("a=b;a=1;a=$1;a=~b;a=(b);a=@[b];", 6);
        for (char first = 33; first < 127; first++) {
            boolean begins = first >= 'a' && first <= 'z' || first >= '0' && first <= '9' || "$~(@".indexOf(first) >= 0;
            if (!begins) {
                Check.dueFault("a=" + first, 3);
                Check.dueFault("a=b+" + first, 5);
                Check.dueFault("a=~" + first, 4);
                Check.dueFault("a=(" + first, 4);
                Check.dueFault("a=@[" + first, 5);
                Check.dueFault("@[" + first, 3);
                Check.dueFault("@[1]=" + first, 6);
                Check.dueFault("?" + first, 2);
            }
        }
        Check.dueFault("a=~b~c;", 5);
        Check.dueFault("a=(b)c;", 6);
        Check.dueFault("a=@[b]c;", 7);
    }

    private static void namesFromAToZ() {
        Check.sentence("A name is a letter a .. z");
        for (char c = 33; c < 127; c++) {
            boolean isName = c >= 'a' && c <= 'z';
            if (isName) {
                Check.dueValue(c + "=" + c + "+5;", c, 5);
                Check.dueValue("#" + c + "3{}", c, 2);
            } else if (c != '@' && c != '#' && c != '?') {
                Check.dueFault(c + "=1;", 1);
            }
            if (!isName) {
                Check.dueFault("#" + c + "1{}", 2);
            }
        }
        Check.dueFault("`=1;", 1);
        Check.dueFault("{=1;", 1);
        Check.dueFault("a=`;", 3);
        Check.dueFault("a={;", 3);
        Check.dueFault("ab=1;", 2);
    }

    private static void numbersOfOneToTenDigits() {
        Check.sentence("A number is one to ten digits");
        Check.dueValue("a=0;", 'a', 0);
        Check.dueValue("a=9;", 'a', 9);
        Check.dueValue("a=1234567890;", 'a', 1234567890);
        for (int digits = 1; digits <= 10; digits++) {
            Check.dueValue("a=" + "0".repeat(digits - 1) + "7;", 'a', 7);
        }
        Check.dueFault("a=;", 3);
        Check.dueFault("a=00000000007;", 3);
        Check.dueFault("a=00000000000;", 3);
        Check.dueFault("a=/;", 3);
        Check.dueFault("a=:;", 3);
        Check.dueFault("a=1/;", 4);
        Check.dueFault("a=1:;", 4);
    }

    private static void numbersUpToTheGreatest() {
        Check.sentence("of a value up to 4294967295 (as a word; so 4294967295 is -1)");
        Check.dueValue("a=2147483647;", 'a', Integer.MAX_VALUE);
        Check.dueValue("a=2147483648;", 'a', Integer.MIN_VALUE);
        Check.dueValue("a=4294967294;", 'a', -2);
        Check.dueValue("a=4294967295;", 'a', -1);
        Check.dueFault("a=4294967296;", 3);
        Check.dueFault("a=4294967297;", 3);
        Check.dueFault("a=4294967300;", 3);
        Check.dueFault("a=8589934592;", 3);
        Check.dueFault("a=9999999999;", 3);
    }

    private static void numbersToTheBase16() {
        Check.sentence("or $ and one to eight digits 0 .. 9 a .. f, which are read to the base 16");
        Check.dueValue("a=$0;", 'a', 0);
        Check.dueValue("a=$9;", 'a', 9);
        Check.dueValue("a=$a;", 'a', 10);
        Check.dueValue("a=$f;", 'a', 15);
        Check.dueValue("a=$10;", 'a', 16);
        Check.dueValue("a=$7fffffff;", 'a', Integer.MAX_VALUE);
        Check.dueValue("a=$80000000;", 'a', Integer.MIN_VALUE);
        Check.dueValue("a=$ffffffff;", 'a', -1);
        Check.dueValue("a=$0000000a;", 'a', 10);
        Check.dueFault("a=$00000000a;", 3);
        Check.dueFault("a=$000000000;", 3);
        for (char c = 33; c < 127; c++) {
            if (!(c >= '0' && c <= '9' || c >= 'a' && c <= 'f')) {
                Check.dueFault("a=$" + c, 4);
            }
        }
        Check.dueFault("a=$", 4);
        Check.dueFault("a=$g;", 4);
        Check.dueFault("a=$`;", 4);
        Check.dueFault("a=$/;", 4);
        Check.dueFault("a=$:;", 4);
        Check.dueFault("a=$F;", 4);
        Check.dueFault("a=$1G;", 5);
        Check.dueFault("a=1$;", 4);
    }

    private static void digitsTogether() {
        Check.sentence("All digits that stand together belong to the number.");
        Check.dueFault("a=42949672950;", 3);
        Check.dueFault("a=$fffffffff;", 3);
        Check.dueFault("a=" + "7".repeat(478), 3);
        Check.dueFault("a=$" + "f".repeat(477), 3);
        Check.dueFault("a=b<310;", 5);
        Check.dueFault("a=b<$1f0;", 5);
        Check.dueFault("#i640{}", 3);
        Check.dueFault("#i64{#j100{}}", 8);
        Check.dueValue("a=12;", 'a', 12);
        Check.dueValue("b=1;a=b<12;", 'a', 4096);
        Check.dueValue("#i12{}", 'i', 11);
        // To the base 16 a letter is a digit, to the base 10 it is none.
        Check.dueValue("a=$1a;", 'a', 26);
        Check.dueFault("a=1a;", 4);
        Check.dueFault("a=12345678901a;", 3);
    }

    private static void writeLowestFirst() {
        Check.sentence("Adds the characters in the eight bytes of a long, the lowest first, to the text");
        RoundCompiler x = new RoundCompiler();
        Check.due("write of a=12345;", x.write(0x3b35_3433_3231_3d61L), true);
        Check.due("compile() of a=12345;", x.compile(), 1);
        x.run();
        Check.due("value(0)", x.value(0), 12345);
        Check.due("write of b=6;", x.write(0x3b36_3d62L), true);
        Check.due("compile() of both", x.compile(), 2);
        x.run();
        Check.due("value(0)", x.value(0), 12345);
        Check.due("value(1)", x.value(1), 6);
    }

    private static void writeLeavesOutZeros() {
        Check.sentence("bytes 0 are left out");
        Check.due("write(0) to an empty text", new RoundCompiler().write(0L), true);
        RoundCompiler full = written(480);
        Check.due("write(0) to a full text", full.write(0L), true);
        Check.due("compile() of a full text", full.compile(), 120);
        for (int gap = 0; gap <= 4; gap++) {
            RoundCompiler x = new RoundCompiler();
            long start = Check.packed("a=7;".substring(0, gap));
            long end = gap == 4 ? 0 : Check.packed("a=7;".substring(gap));
            Check.due("write with zeros behind " + gap, x.write(start | end << 32), true);
            Check.due("compile()", x.compile(), 1);
            x.run();
            Check.due("value(0)", x.value(0), 7);
        }
        RoundCompiler y = written(479);
        Check.due("write of one and seven zeros", y.write((long) ';' << 24), true);
        Check.due("compile()", y.compile(), 120);
    }

    private static void writeRefusesOtherBytes() {
        Check.sentence("False, changing nothing, when another byte is not 33 .. 126");
        for (int k = 0; k < 8; k++) {
            for (int no : NO_CHARACTERS) {
                RoundCompiler x = Check.ran("a=5;@[0]=6;");
                long others = Check.packed("b=2;c=3;") & ~(255L << 8 * k);
                Check.due("write of byte " + no + " among seven, at " + k, x.write(others | (long) no << 8 * k), false);
                Check.due("value(0)", x.value(0), 5);
                Check.due("peek(0)", x.peek(0), 6);
                Check.due("compile()", x.compile(), 2);
                Check.due("write behind it", x.write(Check.packed("c=7;")), true);
                Check.due("compile() with more", x.compile(), 3);
            }
        }
        Check.due("write(-1)", new RoundCompiler().write(-1L), false);
        Check.due("write(MIN_VALUE)", new RoundCompiler().write(Long.MIN_VALUE), false);
        Check.due("write(MAX_VALUE)", new RoundCompiler().write(Long.MAX_VALUE), false);
        Check.due("write of byte 32 to a full text", written(480).write(32L), false);
    }

    private static void writeRefusesMoreThan480() {
        Check.sentence("or there would be more than 480");
        RoundCompiler x = written(476);
        Check.due("write of 476 + 5", x.write(Check.packed("b=2;c")), false);
        Check.due("compile() of 476", x.compile(), 119);
        Check.due("write of 476 + 8", x.write(Check.packed("b=2;c=3;")), false);
        Check.due("compile() of 476 still", x.compile(), 119);
        Check.due("write of 476 + 4", x.write(Check.packed("b=2;")), true);
        Check.due("compile() of 480", x.compile(), 120);
        Check.due("write of 480 + 1", x.write(Check.packed("!")), false);
        Check.due("compile() of 480 still", x.compile(), 120);
        RoundCompiler y = written(479);
        Check.due("write of 479 + 2", y.write(Check.packed(";!")), false);
        Check.dueThrow("compile() of 479", REFUSED, () -> y.compile());
        Check.due("fault() of 479", y.fault(), 480);
        Check.due("write of 479 + 1", y.write(Check.packed(";")), true);
        Check.due("compile() of 480", y.compile(), 120);
    }

    private static void wipeMakesEmpty() {
        Check.sentence("Makes the text empty");
        RoundCompiler x = new RoundCompiler();
        x.wipe();
        Check.due("compile() of the empty text, wiped", x.compile(), 0);
        RoundCompiler y = written(480);
        y.wipe();
        Check.due("compile() of the full text, wiped", y.compile(), 0);
        Check.append(y, "b=2;".repeat(120));
        Check.due("write of 480 + 1", y.write(Check.packed("b")), false);
        Check.due("compile() of the next 480", y.compile(), 120);
        y.run();
        Check.due("value(0)", y.value(0), 0);
        Check.due("value(1)", y.value(1), 2);
        Check.replace(y, "a=");
        Check.dueThrow("compile() of a=", REFUSED, () -> y.compile());
        Check.due("fault() of a=, not of what stood behind it", y.fault(), 3);
    }

    private static void wipeLeavesWhatIsReady() {
        Check.sentence("(what is ready stays so)");
        RoundCompiler x = new RoundCompiler();
        Check.append(x, "a=b+@[0];");
        x.wipe();
        Check.dueThrow("run() of what was never compiled", NOT_READY, () -> x.run());
        RoundCompiler y = Check.compiled("a=b+@[0];@[1]=4;");
        y.fill(192, 9, 2);
        y.run();
        Check.append(y, "!");
        Check.dueThrow("compile()", REFUSED, () -> y.compile());
        String before = Check.stateOf(y);
        y.wipe();
        Check.dueState("wipe()", y, before);
        Check.dueSteps("what is ready", y, 2);
        Check.due("value(0)", y.value(0), 9);
    }
}
