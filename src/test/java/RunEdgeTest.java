/** The edges of running, of settled operators, and of work, run and value. */
public final class RunEdgeTest {
    private static final Class<IndexOutOfBoundsException> OUTSIDE = IndexOutOfBoundsException.class;
    private static final Class<IllegalStateException> NOT_READY = IllegalStateException.class;
    private static final String[] NO_ADDRESSES =
            {"192", "193", "256", "2147483647", "2147483648", "4294967104", "4294967295", "$c0", "0-1", "191+1"};

    public static void main(String[] args) {
        Check.all(
                RunEdgeTest::memoryOf192,
                RunEdgeTest::namesAreZeroAtFirst,
                RunEdgeTest::leftToRight,
                RunEdgeTest::wraps,
                RunEdgeTest::turnsToTheLeft,
                RunEdgeTest::movesToTheRight,
                RunEdgeTest::turnsAllBits,
                RunEdgeTest::wordsAtAddresses,
                RunEdgeTest::namesHaveTheirValueFromThenOn,
                RunEdgeTest::addressThenSumThenWord,
                RunEdgeTest::loopsGoFromZero,
                RunEdgeTest::loopsLeaveTheLast,
                RunEdgeTest::branchesOnWhatIsNotZero,
                RunEdgeTest::stepsAreStatementsThatHaveBeenRun,
                RunEdgeTest::readingFails,
                RunEdgeTest::writingFails,
                RunEdgeTest::whatIsNotReachedDoesNotFail,
                RunEdgeTest::settledOperators,
                RunEdgeTest::bracketsMeanNothing,
                RunEdgeTest::workOfWhatIsReady,
                RunEdgeTest::workOfNone,
                RunEdgeTest::runAnswersSteps,
                RunEdgeTest::runOfTheLongestPrograms,
                RunEdgeTest::runOfNone,
                RunEdgeTest::runThatFailsChangesNothing,
                RunEdgeTest::runThatFailsInTheMidst,
                RunEdgeTest::valueOfTheLatest,
                RunEdgeTest::valueOfNone,
                RunEdgeTest::valueOfNoName);
    }

    private static void memoryOf192() {
        Check.sentence("MEMORY has 192 words at the ADDRESSES 0 .. 191, all 0 at first.");
        RoundCompiler x = Check.ran("#i64{#j3{a=a|@[i*3+j];@[i*3+j]=i*3+j+7;}}");
        Check.due("value of a", x.value(0), 0);
        for (int address = 0; address < 192; address++) {
            Check.due("peek(" + address + ")", x.peek(address), address + 7);
        }
        Check.dueSteps("@[0]=1;@[191]=2;", 2);
        Check.dueFail("@[192]=1;");
        Check.dueFail("@[0-1]=1;");
    }

    private static void namesAreZeroAtFirst() {
        Check.sentence("At the beginning of a run each of the 26 names has the value 0.");
        StringBuilder sum = new StringBuilder("@[0]=0");
        StringBuilder give = new StringBuilder();
        for (char name = 'a'; name <= 'z'; name++) {
            sum.append('|').append(name);
            give.append(name).append("=9;");
        }
        RoundCompiler x = Check.compiled(sum + ";" + give);
        for (int again = 0; again < 3; again++) {
            x.poke(0, -1);
            Check.dueSteps("all names", x, 27);
            Check.due("peek(0)", x.peek(0), 0);
            Check.due("value(0)", x.value(0), 9);
            Check.due("value(25)", x.value(25), 9);
        }
        RoundCompiler y = Check.compiled("a=a+7;?@[0]{b=@[192];}");
        y.poke(0, 1);
        Check.dueThrow("run()", OUTSIDE, () -> y.run());
        y.poke(0, 0);
        Check.dueSteps("the run behind one that failed", y, 1);
        Check.due("value(0)", y.value(0), 7);
    }

    private static void leftToRight() {
        Check.sentence("Sums are worked out from left to right, all operators of one rank");
        Check.dueValue("a=1+2*3;", 'a', 9);
        Check.dueValue("b=1;c=2;d=3;a=b+c*d;", 'a', 9);
        Check.dueValue("b=1;c=2;d=3;a=b-c-d;", 'a', -4);
        Check.dueValue("b=1;c=2;d=3;a=b|c&d;", 'a', 3);
        Check.dueValue("b=4;c=2;d=3;a=b|c&d;", 'a', 2);
        Check.dueValue("b=6;c=3;d=2;a=b|c-d;", 'a', 5);
        Check.dueValue("b=6;c=3;d=2;a=b^c*d;", 'a', 10);
        Check.dueValue("b=6;c=2;d=3;a=b^c+d;", 'a', 7);
        Check.dueValue("b=6;c=2;d=3;a=b+c^d;", 'a', 11);
        Check.dueValue("b=6;c=2;d=3;a=b&c-d;", 'a', -1);
        Check.dueValue("b=1;a=2*b<3;", 'a', 16);
        Check.dueValue("b=1;a=2+b<3;", 'a', 10);
        Check.dueValue("b=1;a=(2+b)<3;", 'a', 24);
    }

    private static void wraps() {
        Check.sentence("+ - * wrap");
        Check.dueValue("b=4294967295;a=b+1;", 'a', 0);
        Check.dueValue("b=$7fffffff;a=b+1;", 'a', Integer.MIN_VALUE);
        Check.dueValue("b=$80000000;a=b+b;", 'a', 0);
        Check.dueValue("a=b-1;", 'a', -1);
        Check.dueValue("b=$80000000;a=b-1;", 'a', Integer.MAX_VALUE);
        Check.dueValue("b=$80000000;a=0-b;", 'a', Integer.MIN_VALUE);
        Check.dueValue("b=65536;a=b*b;", 'a', 0);
        Check.dueValue("b=4294967295;a=b*b;", 'a', 1);
        Check.dueValue("b=$80000000;a=b*4294967295;", 'a', Integer.MIN_VALUE);
        Check.dueValue("b=$10001;a=b*b;", 'a', 0x20001);
        // The same with operators that are settled.
        Check.dueValue("a=4294967295+1;", 'a', 0);
        Check.dueValue("a=$7fffffff+1;", 'a', Integer.MIN_VALUE);
        Check.dueValue("a=0-1;", 'a', -1);
        Check.dueValue("a=$80000000-1;", 'a', Integer.MAX_VALUE);
        Check.dueValue("a=65536*65536;", 'a', 0);
        Check.dueValue("a=4294967295*4294967295;", 'a', 1);
        Check.dueValue("a=$80000000*4294967295;", 'a', Integer.MIN_VALUE);
        Check.dueValue("a=$10001*$10001;", 'a', 0x20001);
    }

    private static void turnsToTheLeft() {
        Check.sentence("< turns a word to the left by so many bits, those that leave it come in on the right");
        for (int word : new int[] {1, 0x80000000, 0x80000001, 0x12345678, 0xfffffffe, -1, 0}) {
            for (int bits = 1; bits <= 31; bits++) {
                int want = 0;
                for (int k = 0; k < 32; k++) {
                    want |= (word >>> k & 1) << (k + bits) % 32;
                }
                String number = "$" + Integer.toHexString(word);
                Check.dueValue("b=" + number + ";a=b<" + bits + ";", 'a', want);
                Check.dueValue("a=" + number + "<" + bits + ";", 'a', want);
            }
        }
        Check.dueValue("b=$80000001;a=b<31<1;", 'a', 0x80000001);
    }

    private static void movesToTheRight() {
        Check.sentence("> moves it to the right, zeros coming in");
        for (int word : new int[] {1, 0x80000000, 0x80000001, 0x12345678, 0xfffffffe, -1, 0}) {
            for (int bits = 1; bits <= 31; bits++) {
                int want = 0;
                for (int k = bits; k < 32; k++) {
                    want |= (word >>> k & 1) << k - bits;
                }
                String number = "$" + Integer.toHexString(word);
                Check.dueValue("b=" + number + ";a=b>" + bits + ";", 'a', want);
                Check.dueValue("a=" + number + ">" + bits + ";", 'a', want);
            }
        }
        Check.dueValue("b=4294967295;a=b>31>1;", 'a', 0);
    }

    private static void turnsAllBits() {
        Check.sentence("~ turns all bits.");
        Check.dueValue("a=~b;", 'a', -1);
        Check.dueValue("b=4294967295;a=~b;", 'a', 0);
        Check.dueValue("b=$80000000;a=~b;", 'a', Integer.MAX_VALUE);
        Check.dueValue("a=~0;", 'a', -1);
        Check.dueValue("a=~4294967295;", 'a', 0);
        Check.dueValue("a=~~5;", 'a', 5);
        Check.dueValue("b=5;a=~~~b;", 'a', -6);
        Check.dueValue("b=1;a=~b>1;", 'a', Integer.MAX_VALUE);
        Check.dueValue("a=~1>1;", 'a', Integer.MAX_VALUE);
        Check.dueValue("b=1;a=~b+2;", 'a', 0);
    }

    private static void wordsAtAddresses() {
        Check.sentence("@ [ sum ] is the word at this address.");
        RoundCompiler x = Check.compiled("a=@[0];b=@[191];c=@[@[0]];d=@[@[@[0]]+1];");
        x.fill(192, 1000, 1);
        x.poke(0, 191);
        x.poke(191, 5);
        Check.dueSteps("words", x, 4);
        Check.due("value of a", x.value(0), 191);
        Check.due("value of b", x.value(1), 5);
        Check.due("value of c", x.value(2), 5);
        Check.due("value of d", x.value(3), 1006);
        Check.dueSteps("a=@[4294967295+1];", 1);
        Check.dueSteps("a=@[$ffffffff>31];", 1);
    }

    private static void namesHaveTheirValueFromThenOn() {
        Check.sentence("name = sum: the name has its value from then on.");
        Check.dueValue("a=1;a=2;", 'a', 2);
        Check.dueValue("b=a;a=1;", 'b', 0);
        Check.dueValue("a=1;b=a;a=2;", 'b', 1);
        Check.dueValue("a=3;a=a+a*a;", 'a', 18);
        Check.dueValue("?1{a=4;}b=a;", 'b', 4);
        Check.dueValue("#i3{b=b*10+a;a=i+1;}", 'b', 12);
    }

    private static void addressThenSumThenWord() {
        Check.sentence("the address is worked out first, then the sum, then the word becomes its value.");
        RoundCompiler x = Check.ran("@[3]=4;@[@[3]]=@[3]+@[4]+1;@[@[4]]=@[4]*2;");
        Check.due("peek(3)", x.peek(3), 4);
        Check.due("peek(4)", x.peek(4), 5);
        Check.due("peek(5)", x.peek(5), 10);
        RoundCompiler y = Check.ran("@[7]=8;@[7]=@[7]+@[7];@[@[7]]=@[7]+1;");
        Check.due("peek(7)", y.peek(7), 16);
        Check.due("peek(16)", y.peek(16), 17);
        // The deepest address and the deepest sum leave as much open as can be.
        RoundCompiler z = Check.ran("x=1;@[" + "x+(".repeat(12) + "x+x" + ")".repeat(12) + "]="
                + "x+(".repeat(12) + "x+x+x" + ")".repeat(12) + ";");
        Check.due("peek(14)", z.peek(14), 15);
    }

    private static void loopsGoFromZero() {
        Check.sentence("for 0, 1, .. number - 1 the name has this value and the program in it is run");
        for (int many = 1; many <= 64; many++) {
            RoundCompiler x = Check.compiled("i=99;#i" + many + "{@[i]=@[i]+i+1;a=a+1;}");
            Check.dueSteps("a loop of " + many, x, 1 + 2 * many);
            Check.due("turns of " + many, x.value(0), many);
            for (int address = 0; address <= 64; address++) {
                Check.due("peek(" + address + ") of " + many, x.peek(address), address < many ? address + 1 : 0);
            }
        }
        Check.dueValue("#i64{#j10{a=a+1;}}", 'a', 640);
        Check.dueValue("#a2{#b2{#c2{#d2{#e2{#f2{#g2{#h5{z=z+1;}}}}}}}}", 'z', 640);
        Check.dueValue("#i3{#j2{a=a*10+(i*2+j);}}", 'a', 12345);
    }

    private static void loopsLeaveTheLast() {
        Check.sentence("it has the last one afterwards.");
        Check.dueValue("#i1{}", 'i', 0);
        Check.dueValue("i=5;#i1{}", 'i', 0);
        Check.dueValue("#i64{}", 'i', 63);
        Check.dueValue("#i2{}a=i;", 'a', 1);
        Check.dueValue("#i3{#j4{}a=a*10+j;}", 'a', 333);
        Check.dueValue("#i3{a=a*10+j;#j4{}}", 'a', 33);
        Check.dueValue("#i3{}i=i+5;", 'i', 7);
        Check.dueValue("?0{#i3{}}", 'i', 0);
    }

    private static void branchesOnWhatIsNotZero() {
        Check.sentence("the program in it is run if the sum is not 0.");
        String[] notZero = {"1", "4294967295", "$80000000", "b+1", "~b", "b-1", "0+1", "@[0]+1"};
        for (String sum : notZero) {
            Check.dueValue("?" + sum + "{a=5;}", 'a', 5);
            Check.dueSteps("?" + sum + "{a=5;}c=6;", 2);
        }
        String[] zero = {"0", "$0", "b", "1-1", "~4294967295", "4294967295+1", "@[0]", "$80000000*2", "1>1"};
        for (String sum : zero) {
            Check.dueValue("?" + sum + "{a=5;}", 'a', 0);
            Check.dueSteps("?" + sum + "{a=5;}c=6;", 1);
        }
        Check.dueValue("a=1;?a{a=0;b=1;}", 'b', 1);
        Check.dueSteps("?0{?1{a=1;}#i9{b=2;}@[192]=1;}c=3;", 1);
        Check.dueSteps("#i4{?i&1{a=1;}?~i&1{b=1;c=1;}}", 6);
    }

    private static void stepsAreStatementsThatHaveBeenRun() {
        Check.sentence("A statement that has been run counts as a STEP (loops and branches themselves do not).");
        Check.dueSteps("", 0);
        Check.dueSteps("#i64{}", 0);
        Check.dueSteps("?1{}", 0);
        Check.dueSteps("?0{}", 0);
        Check.dueSteps("#i64{#j10{?1{}}}", 0);
        Check.dueSteps("a=1;", 1);
        Check.dueSteps("@[0]=1;", 1);
        Check.dueSteps("?1{a=1;}", 1);
        Check.dueSteps("?0{a=1;}", 0);
        Check.dueSteps("#i64{#j10{a=1;@[0]=2;}b=3;}", 1344);
        String most = "a=1;".repeat(117);
        Check.dueSteps("#i64{#j10{" + most + "}}", 640 * 117);
    }

    private static void readingFails() {
        Check.sentence("If an address is worked out that is not 0 .. 191 and its word is to be read");
        for (String address : NO_ADDRESSES) {
            Check.dueFail("a=@[" + address + "];");
            Check.dueFail("a=b+@[" + address + "+b];");
            Check.dueFail("@[@[" + address + "]]=1;");
            Check.dueFail("@[0]=@[" + address + "];");
            Check.dueFail("?@[" + address + "]{}");
            Check.dueFail("?@[" + address + "]&0{a=1;}");
            Check.dueFail("a=@[@[" + address + "]&0];");
        }
        Check.dueSteps("a=@[0];a=@[191];", 2);
        Check.dueSteps("#i64{a=@[i*3];a=@[i*3+2];}", 128);
        Check.dueFail("#i64{a=@[i*3+3];}");
        Check.dueFail("#i64{a=@[i-1];}");
    }

    private static void writingFails() {
        Check.sentence("or written (the sum that is to be written having been worked out), the run FAILS.");
        for (String address : NO_ADDRESSES) {
            Check.dueFail("@[" + address + "]=1;");
            Check.dueFail("@[" + address + "+b]=b;");
            Check.dueFail("@[" + address + "]=@[192];");
        }
        Check.dueSteps("@[0]=1;@[191]=1;", 2);
        Check.dueSteps("#i64{@[i*3]=1;@[i*3+2]=1;}", 128);
        Check.dueFail("#i64{@[i*3+3]=1;}");
        Check.dueFail("#i64{@[i-1]=1;}");
    }

    private static void whatIsNotReachedDoesNotFail() {
        Check.sentence("If an address is worked out that is not 0 .. 191 and its word is to be read");
        Check.dueSteps("?0{a=@[192];@[192]=1;?@[192]{}}", 0);
        Check.dueSteps("a=192;b=a+@[a-1];", 2);
        Check.dueSteps("#i64{?i-64{a=i;}}", 64);
        Check.dueSteps("#i64{?i>6{a=@[192];}}", 0);
    }

    private static void settledOperators() {
        Check.sentence("is SETTLED if what it works on is a number or a settled operator's value");
        for (char operator : "+-*&|^".toCharArray()) {
            Check.dueWork("a=1" + operator + "2;", 0);
            Check.dueWork("a=b" + operator + "2;", 1);
            Check.dueWork("a=1" + operator + "b;", 1);
            Check.dueWork("a=@[1]" + operator + "2;", 1);
            Check.dueWork("a=1" + operator + "@[2];", 1);
            Check.dueWork("a=1" + operator + "2" + operator + "b;", 1);
            Check.dueWork("a=1" + operator + "b" + operator + "2;", 2);
            Check.dueWork("a=b" + operator + "1" + operator + "2;", 2);
            Check.dueWork("a=0" + operator + "b;", 1);
        }
        for (String operator : new String[] {"<1", "<31", ">1", ">31"}) {
            Check.dueWork("a=1" + operator + ";", 0);
            Check.dueWork("a=b" + operator + ";", 1);
            Check.dueWork("a=@[1]" + operator + ";", 1);
            Check.dueWork("a=1" + operator + operator + ";", 0);
            Check.dueWork("a=b" + operator + operator + ";", 2);
            Check.dueWork("a=b+1" + operator + ";", 1);
            Check.dueWork("a=1+b" + operator + ";", 2);
        }
        Check.dueWork("a=~1;", 0);
        Check.dueWork("a=~b;", 1);
        Check.dueWork("a=~@[1];", 1);
        Check.dueWork("a=~~1;", 0);
        Check.dueWork("a=~~b;", 2);
        Check.dueWork("a=~1+b;", 1);
        Check.dueWork("a=~b+1;", 2);
        // A word of memory is neither a number nor an operator, but what is in its brackets may be.
        Check.dueWork("a=@[1+2];", 0);
        Check.dueWork("a=@[1+b];", 1);
        Check.dueWork("a=@[@[1+2]+3];", 1);
        Check.dueWork("a=1+2+@[3+4];", 1);
        // A name stays a name, even if it got a number just before.
        Check.dueWork("a=1;b=a+2;", 1);
        Check.dueWork("#i1{b=i+2;}", 1);
        // What is never run counts as well.
        Check.dueWork("?0{a=b+c;d=1+2;}", 1);
        Check.dueWork("?1+2{}?b+2{}", 1);
        Check.dueWork("@[1+2]=3+4;@[b+2]=c+4;", 2);
    }

    private static void bracketsMeanNothing() {
        Check.sentence("(brackets mean nothing for this)");
        Check.dueWork("a=(1)+(2);", 0);
        Check.dueWork("a=((1)+((2)));", 0);
        Check.dueWork("a=b+(1+2);", 1);
        Check.dueWork("a=b+1+2;", 2);
        Check.dueWork("a=(b)+(1);", 1);
        Check.dueWork("a=(b+1)+(2+3);", 2);
        Check.dueWork("a=~(1);", 0);
        Check.dueWork("a=~(b);", 1);
        Check.dueWork("a=(1+2)<3;", 0);
        Check.dueWork("a=(b+2)<3;", 2);
        Check.dueWork("a=" + "(".repeat(12) + "1+2" + ")".repeat(12) + "+3;", 0);
        Check.dueWork("a=(((1)+(b)));", 1);
        Check.dueValue("b=5;a=b-(1-(2-3));", 'a', 3);
    }

    private static void workOfWhatIsReady() {
        Check.sentence("How many operators of the program that is ready are not settled");
        RoundCompiler x = Check.compiled("a=b+c<1*~d;");
        Check.due("work()", x.work(), 4);
        Check.append(x, "e=f+g;");
        Check.due("work() behind write", x.work(), 4);
        Check.due("compile()", x.compile(), 2);
        Check.due("work() of both", x.work(), 5);
        x.run();
        Check.due("work() behind run", x.work(), 5);
        Check.due("compile() again", x.compile(), 2);
        Check.due("work() again", x.work(), 5);
        Check.dueWork("a=b" + "+c".repeat(238) + ";", 238);
        Check.dueWork("a=b" + "<1".repeat(238) + ";", 238);
        Check.dueWork("#i64{#j10{a=b+c;}}", 1);
    }

    private static void workOfNone() {
        Check.sentence("0 if none is ready");
        RoundCompiler x = new RoundCompiler();
        Check.due("work() of a new object", x.work(), 0);
        Check.append(x, "a=b+c;d=");
        Check.dueThrow("compile()", IllegalArgumentException.class, () -> x.compile());
        Check.due("work() behind a fault", x.work(), 0);
        x.wipe();
        Check.due("compile() of nothing", x.compile(), 0);
        Check.due("work() of nothing", x.work(), 0);
    }

    private static void runAnswersSteps() {
        Check.sentence("Runs the program that is ready: how many steps it made.");
        RoundCompiler x = Check.compiled("?@[0]{a=1;@[0]=@[0]-1;}b=2;");
        x.poke(0, 2);
        Check.dueSteps("the first time", x, 3);
        Check.dueSteps("the second time", x, 3);
        Check.dueSteps("the third time", x, 1);
        Check.append(x, "c=3;");
        Check.dueSteps("what is ready, not the text", x, 1);
    }

    private static void runOfTheLongestPrograms() {
        Check.sentence("Runs the program that is ready: how many steps it made.");
        RoundCompiler x = Check.compiled("#i64{#j10{a=b" + "+c".repeat(229) + ";c=1;}}");
        Check.dueSteps("long sums in all turns", x, 1280);
        Check.due("value of a, long sums", x.value(0), 229);
        RoundCompiler y = Check.compiled("#i64{#j10{" + "?1{}".repeat(116) + "}}b=9;");
        Check.dueSteps("empty branches in all turns", y, 1);
        Check.due("value of b, empty branches", y.value(1), 9);
        RoundCompiler z = Check.compiled("#i64{#j10{" + "#k1{}".repeat(92) + "}}b=9;");
        Check.dueSteps("empty loops in all turns", z, 1);
        Check.due("value of b, empty loops", z.value(1), 9);
    }

    private static void runOfNone() {
        Check.sentence("IllegalStateException when none is ready");
        RoundCompiler x = new RoundCompiler();
        x.fill(192, 4, 9);
        String before = Check.stateOf(x);
        Check.dueThrow("run() of a new object", NOT_READY, () -> x.run());
        Check.dueState("run() of none", x, before);
        Check.append(x, "a=1;");
        Check.dueThrow("run() of a text", NOT_READY, () -> x.run());
        Check.due("compile()", x.compile(), 1);
        Check.dueSteps("a=1;", x, 1);
        RoundCompiler y = new RoundCompiler();
        Check.append(y, "a=1");
        Check.dueThrow("compile()", IllegalArgumentException.class, () -> y.compile());
        Check.dueThrow("run() behind a fault", NOT_READY, () -> y.run());
        y.wipe();
        Check.due("compile() of nothing", y.compile(), 0);
        Check.dueSteps("nothing, which is ready", y, 0);
    }

    private static void runThatFailsChangesNothing() {
        Check.sentence("IndexOutOfBoundsException when it fails: then memory and the names' values are as before the run.");
        StringBuilder everyName = new StringBuilder();
        for (char name = 'a'; name <= 'z'; name++) {
            everyName.append(name).append('=').append(name - 'a' + 3).append(';');
        }
        RoundCompiler x = Check.ran(everyName.toString());
        x.fill(192, 7, 11);
        Check.replace(x, "#i64{#j3{@[i*3+j]=5;}}#c3{}a=1;b=2;z=3;?@[0]-5{z=4;}z=@[a+191];");
        x.compile();
        String before = Check.stateOf(x);
        Check.dueThrow("run()", OUTSIDE, () -> x.run());
        Check.dueThrow("run() again", OUTSIDE, () -> x.run());
        Check.dueState("run() that failed", x, before);
        RoundCompiler y = Check.ran("a=8;@[0]=9;@[191]=10;");
        Check.replace(y, "a=1;@[0]=2;@[191]=3;@[192]=4;");
        y.compile();
        String wroteBefore = Check.stateOf(y);
        Check.dueThrow("run() that writes outside", OUTSIDE, () -> y.run());
        Check.dueState("run() that writes outside", y, wroteBefore);
    }

    private static void runThatFailsInTheMidst() {
        Check.sentence("IndexOutOfBoundsException when it fails: then memory and the names' values are as before the run.");
        RoundCompiler x = Check.compiled("x=1;@[9]=x+(x+(x+(x+(x+(x+(x+@[@[0]]*0))))));a=x;");
        for (int again = 0; again < 40; again++) {
            x.poke(0, again % 2 == 0 ? 192 : -1);
            Check.dueThrow("run() in the midst of a sum", OUTSIDE, () -> x.run());
            Check.due("value(0)", x.value(0), 0);
            Check.due("peek(9)", x.peek(9), 0);
        }
        x.poke(0, 191);
        Check.dueSteps("the run that no longer fails", x, 3);
        Check.due("value(0)", x.value(0), 1);
        Check.due("peek(9)", x.peek(9), 6);
        // It fails in the last turn of a loop, and what is ready stays so.
        RoundCompiler y = Check.compiled("#i64{@[i]=1;?i&63+1&64{@[192]=i;}}");
        Check.dueThrow("run() in the last turn", OUTSIDE, () -> y.run());
        Check.due("mixed()", y.mixed(), 0);
        Check.due("value of i", y.value('i' - 'a'), 0);
        Check.due("work()", y.work(), 3);
    }

    private static void valueOfTheLatest() {
        Check.sentence("The value that a name (0 for a .. 25 for z) had at the end of the latest run that did not fail");
        for (int name = 0; name < 26; name++) {
            RoundCompiler x = Check.ran((char) ('a' + name) + "=4294967295;");
            for (int other = 0; other < 26; other++) {
                Check.due("value(" + other + ") by " + name, x.value(other), other == name ? -1 : 0);
            }
        }
        RoundCompiler y = Check.compiled("a=@[@[0]]+5;");
        y.poke(1, 70);
        y.poke(0, 1);
        y.run();
        Check.due("value(0)", y.value(0), 75);
        y.poke(0, 192);
        Check.dueThrow("run()", OUTSIDE, () -> y.run());
        Check.due("value(0) behind a run that failed", y.value(0), 75);
        Check.replace(y, "b=1;");
        y.compile();
        Check.due("value(0) behind compile()", y.value(0), 75);
        y.run();
        Check.due("value(0) of the next program", y.value(0), 0);
        Check.due("value(1) of the next program", y.value(1), 1);
        y.wipe();
        y.compile();
        y.run();
        Check.due("value(1) of no statements", y.value(1), 0);
    }

    private static void valueOfNone() {
        Check.sentence("0 if there was none.");
        RoundCompiler x = Check.compiled("a=1;z=2;@[192]=3;");
        for (int name = 0; name < 26; name++) {
            Check.due("value(" + name + ") before a run", x.value(name), 0);
        }
        Check.dueThrow("run()", OUTSIDE, () -> x.run());
        for (int name = 0; name < 26; name++) {
            Check.due("value(" + name + ") behind a run that failed", x.value(name), 0);
        }
    }

    private static void valueOfNoName() {
        Check.sentence("IndexOutOfBoundsException when it is no name.");
        RoundCompiler x = Check.ran("a=1;z=2;@[191]=3;");
        Check.due("value(0)", x.value(0), 1);
        Check.due("value(25)", x.value(25), 2);
        String before = Check.stateOf(x);
        for (int name : new int[] {-1, 26, 27, 31, 32, -26, 97, 122, Integer.MIN_VALUE, Integer.MAX_VALUE}) {
            Check.dueThrow("value(" + name + ")", OUTSIDE, () -> x.value(name));
        }
        Check.dueState("value of no name", x, before);
        Check.dueThrow("value(26) of a new object", OUTSIDE, () -> new RoundCompiler().value(26));
        Check.dueThrow("value(-1) of a new object", OUTSIDE, () -> new RoundCompiler().value(-1));
    }
}
