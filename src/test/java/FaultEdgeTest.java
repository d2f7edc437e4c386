/** The edges of each fault that the document names, and of compile and fault. */
public final class FaultEdgeTest {
    private static final Class<IllegalArgumentException> REFUSED = IllegalArgumentException.class;
    private static final Class<IllegalStateException> NOT_READY = IllegalStateException.class;

    public static void main(String[] args) {
        Check.all(
                FaultEdgeTest::firstPlaceThatCannotGoOn,
                FaultEdgeTest::textsThatEndTooEarly,
                FaultEdgeTest::tooGreatNumbers,
                FaultEdgeTest::tooManyDigits,
                FaultEdgeTest::bitsFrom1To31,
                FaultEdgeTest::loopsFrom1To64,
                FaultEdgeTest::loopNamesOfLoopsAround,
                FaultEdgeTest::namesOfLoopsAround,
                FaultEdgeTest::whateverFollowsTheName,
                FaultEdgeTest::productOfLoops,
                FaultEdgeTest::productIsAtTheNumber,
                FaultEdgeTest::insideOfTwelveBrackets,
                FaultEdgeTest::insideOfTwelveOfAllThree,
                FaultEdgeTest::statementsBeginWithAnotherSign,
                FaultEdgeTest::whatIsInside,
                FaultEdgeTest::insideOfEightBlocks,
                FaultEdgeTest::compileMakesReady,
                FaultEdgeTest::compileAnswersAtAnyDepth,
                FaultEdgeTest::compileThrows,
                FaultEdgeTest::compileThatThrowsChangesNothing,
                FaultEdgeTest::faultOfTheLatest,
                FaultEdgeTest::faultOfNone);
    }

    private static void firstPlaceThatCannotGoOn() {
        Check.sentence("There is a FAULT at the first place where what stands cannot go on so, read from left to right");
        Check.dueFault("!a=1;!", 1);
        Check.dueFault("a=1;!;!", 5);
        Check.dueFault("a=(b;c=4294967296;", 5);
        Check.dueFault("a=4294967296;b=(c;", 3);
        Check.dueFault("a=b<32!", 5);
        Check.dueFault("a=b!<32", 4);
        Check.dueFault("#i65{i=1;", 3);
        Check.dueFault("#i64{i=1;#j11{", 6);
        Check.dueFault("#i64{#j11{i=1;", 8);
        Check.dueFault("#i64{#i11{", 7);
        Check.dueFault("#i64{#j11!", 8);
        Check.dueFault("?1{".repeat(8) + "#a99!", 25);
        Check.dueFault("a=" + "(".repeat(12) + "~4294967296", 15);
        Check.dueFault("a=" + "(".repeat(12) + "4294967296(", 15);
        Check.dueFault("a=" + "(".repeat(12) + "@!", 15);
        Check.dueFault("a=" + "(".repeat(480 - 2), 15);
        Check.dueFault("a=1;}", 5);
        Check.dueFault("?1{}}", 5);
        Check.dueFault("#i2{}}a=1;", 6);
    }

    private static void textsThatEndTooEarly() {
        Check.sentence("(one behind the last, if the text ends too early)");
        String[] wholes = {"a=b;", "@[b]=c;", "#i2{a=b;}", "?a{b=c;}", "a=~(@[b]<3>4+$f)*56;", "?1{?2{#i3{#j4{}}}}"};
        for (String whole : wholes) {
            for (int end = 1; end < whole.length(); end++) {
                Check.dueFault(whole.substring(0, end), end + 1);
                Check.dueFault("z=0;" + whole.substring(0, end), end + 5);
            }
            Check.due("fault() of " + whole, Check.compiled(whole).fault(), 0);
        }
        Check.dueFault("a=1;".repeat(119) + "a=12", 481);
        Check.dueFault("a=1;".repeat(119) + "a=b+", 481);
        Check.dueFault("a=1;".repeat(119) + "?1{", 480);
        Check.dueFault("a=1;".repeat(119) + "?12{", 481);
    }

    private static void tooGreatNumbers() {
        Check.sentence("also at the first character of: a number that is too great");
        Check.dueStatements("a=4294967295;", 1);
        Check.dueFault("a=4294967296;", 3);
        Check.dueFault("a=4294967296", 3);
        Check.dueFault("a=4294967296!", 3);
        Check.dueFault("a=b+4294967296;", 5);
        Check.dueFault("a=~4294967296;", 4);
        Check.dueFault("a=(4294967296);", 4);
        Check.dueFault("a=@[4294967296];", 5);
        Check.dueFault("@[4294967296]=1;", 3);
        Check.dueFault("@[1]=4294967296;", 6);
        Check.dueFault("?4294967296{}", 2);
        Check.dueFault("a=b<4294967296;", 5);
        Check.dueFault("a=b<4294967297;", 5);
        Check.dueFault("a=b>4294967327;", 5);
        Check.dueFault("#i4294967296{}", 3);
        Check.dueFault("#i4294967297{}", 3);
        Check.dueFault("#i4294967360{}", 3);
    }

    private static void tooManyDigits() {
        Check.sentence("that has too many digits");
        Check.dueStatements("a=0000000001;", 1);
        Check.dueFault("a=00000000001;", 3);
        Check.dueFault("a=00000000001", 3);
        Check.dueFault("a=18446744073709551617;", 3);
        Check.dueFault("a=340282366920938463463374607431768211457;", 3);
        Check.dueStatements("a=$00000001;", 1);
        Check.dueFault("a=$000000001;", 3);
        Check.dueFault("a=$000000001", 3);
        Check.dueFault("a=$10000000000000001;", 3);
        Check.dueStatements("a=b<0000000001;", 1);
        Check.dueFault("a=b<00000000001;", 5);
        Check.dueStatements("a=b>$00000001;", 1);
        Check.dueFault("a=b>$000000001;", 5);
        Check.dueStatements("#i0000000001{}", 1);
        Check.dueFault("#i00000000001{}", 3);
        Check.dueStatements("#i$00000001{}", 1);
        Check.dueFault("#i$000000001{}", 3);
    }

    private static void bitsFrom1To31() {
        Check.sentence("or, behind < and >, is not 1 .. 31");
        for (char operator : new char[] {'<', '>'}) {
            for (int bits = 0; bits <= 70; bits++) {
                String ten = "a=b" + operator + bits + ";";
                String sixteen = "a=b" + operator + "$" + Integer.toHexString(bits) + ";";
                if (bits >= 1 && bits <= 31) {
                    Check.dueStatements(ten, 1);
                    Check.dueStatements(sixteen, 1);
                } else {
                    Check.dueFault(ten, 5);
                    Check.dueFault(sixteen, 5);
                }
            }
            Check.dueFault("a=b" + operator + "0", 5);
            Check.dueFault("a=b" + operator + "32", 5);
            Check.dueFault("a=b" + operator + "31" + operator + "32;", 8);
            Check.dueFault("a=b" + operator + "4294967295;", 5);
            Check.dueFault("a=b" + operator + "$ffffffff;", 5);
            Check.dueFault("a=1" + operator + "0;", 5);
            Check.dueFault("a=b" + operator + "0000000000;", 5);
        }
    }

    private static void loopsFrom1To64() {
        Check.sentence("behind a loop's name, is not 1 .. 64");
        for (int many = 0; many <= 140; many++) {
            String ten = "#i" + many + "{}";
            String sixteen = "#i$" + Integer.toHexString(many) + "{}";
            if (many >= 1 && many <= 64) {
                Check.dueStatements(ten, 1);
                Check.dueStatements(sixteen, 1);
            } else {
                Check.dueFault(ten, 3);
                Check.dueFault(sixteen, 3);
            }
        }
        Check.dueFault("#i0", 3);
        Check.dueFault("#i65", 3);
        Check.dueFault("#i640{}", 3);
        Check.dueFault("#i4294967295{}", 3);
        Check.dueFault("#i$ffffffff{}", 3);
        Check.dueFault("#i0000000000{}", 3);
        Check.dueFault("#i2{#j0{}}", 7);
        Check.dueFault("#i1{#j65{}}", 7);
    }

    private static void loopNamesOfLoopsAround() {
        Check.sentence("a loop's name that is that of a loop around it");
        for (char name = 'a'; name <= 'z'; name++) {
            Check.dueFault("#" + name + "2{#" + name + "2{}}", 6);
        }
        Check.dueFault("#i2{#i", 6);
        Check.dueFault("#i2{#i!", 6);
        Check.dueFault("#i2{?1{#i2{}}}", 9);
        Check.dueFault("#i2{#j2{#i2{}}}", 10);
        Check.dueFault("#i2{#j2{#j2{}}}", 10);
        Check.dueFault("#i2{#j2{}#i2{}}", 11);
        Check.dueFault("#i2{#j2{}#j2{#i2{}}}", 15);
        Check.dueFault("#a1{#b1{#c1{#d1{#e1{#f1{#g1{#a1{", 30);
        Check.dueStatements("#i2{}#i2{}", 2);
        Check.dueStatements("#i2{#j2{}#j2{}}#j2{#i2{}}", 5);
        Check.dueStatements("?1{#i2{}}#i2{}", 3);
    }

    private static void namesOfLoopsAround() {
        Check.sentence("a name that would get a value by a statement");
        for (char name = 'a'; name <= 'z'; name++) {
            Check.dueFault("#" + name + "2{" + name + "=1;}", 5);
        }
        Check.dueFault("#i2{a=1;i=1;}", 9);
        Check.dueFault("#i2{?1{i=1;}}", 8);
        Check.dueFault("#i2{#j2{i=1;}}", 9);
        Check.dueFault("#i2{#j2{j=1;}}", 9);
        Check.dueFault("#i2{#j2{}i=1;}", 10);
        Check.dueFault("#i2{?1{}#j2{}?1{i=1;}}", 17);
        Check.dueStatements("i=1;#i2{}i=1;", 3);
        Check.dueStatements("#i2{j=1;#j2{}j=1;}", 4);
        Check.dueStatements("#i2{}?1{i=1;}", 3);
        // The name may be used, and a word may get a value, only the name itself may not.
        Check.dueStatements("#i2{a=i;@[i]=i;?i{}@[0]=i;}", 5);
    }

    private static void whateverFollowsTheName() {
        Check.sentence("(as soon as it stands where one begins, whatever follows)");
        Check.dueFault("#i2{i", 5);
        for (char next = 33; next < 127; next++) {
            Check.dueFault("#i2{i" + next, 5);
        }
        Check.dueFault("#i2{?1{i", 8);
        Check.dueFault("#i2{a", 6);
        Check.dueFault("#i2{a!", 6);
        Check.dueFault("#i2{}i", 7);
    }

    private static void productOfLoops() {
        Check.sentence("the product of the numbers of this loop and those around it would be more than 640");
        for (int outer = 1; outer <= 64; outer++) {
            for (int inner = 1; inner <= 64; inner++) {
                String text = "#i" + outer + "{#j" + inner + "{}}";
                if (outer * inner <= 640) {
                    Check.dueStatements(text, 2);
                } else {
                    Check.dueFault(text, text.indexOf('j') + 2);
                }
            }
        }
        Check.dueStatements("#a64{#b10{#c1{#d1{}}}}", 4);
        Check.dueFault("#a64{#b10{#c1{#d2{", 17);
        Check.dueStatements("#a2{#b2{#c2{#d2{#e2{#f2{#g2{#h5{}}}}}}}}", 8);
        Check.dueFault("#a2{#b2{#c2{#d2{#e2{#f2{#g2{#h6{}}}}}}}}", 31);
        Check.dueFault("#a64{#b64{#c64{#d64{#e64{#f64{}}}}}}", 8);
        // Only loops around count, not those before, and a branch between is none.
        Check.dueStatements("#i64{#j10{}#k10{}#l10{#m1{}}}#i64{#j10{}}", 7);
        Check.dueStatements("#i64{}#j64{}#k64{}", 3);
        Check.dueStatements("#i64{?1{?1{#j10{}}}}", 4);
        Check.dueFault("#i64{?1{?1{#j11{}}}}", 14);
        Check.dueFault("#i64{#j2{}#k2{}#l11{}}", 18);
    }

    private static void productIsAtTheNumber() {
        Check.sentence("a loop's number (not its name)");
        Check.dueFault("#i64{#j11{}}", 8);
        Check.dueFault("#i64{#j11", 8);
        Check.dueFault("#i64{#j11!", 8);
        Check.dueFault("#i64{#j$b{}}", 8);
        Check.dueFault("#i64{#j0000000011{}}", 8);
    }

    /** A name inside of so many brackets of one sort. */
    private static String bracketed(String open, String close, int deep) {
        return open.repeat(deep) + "b" + close.repeat(deep);
    }

    private static void insideOfTwelveBrackets() {
        Check.sentence("a (, a ~ or an @ in a sum that stands inside of twelve others of these three");
        String[][] sorts = {{"(", ")"}, {"~", ""}, {"@[", "]"}};
        for (String[] sort : sorts) {
            int wide = sort[0].length();
            for (int deep = 1; deep <= 12; deep++) {
                Check.dueStatements("a=" + bracketed(sort[0], sort[1], deep) + ";", 1);
            }
            for (int deep = 13; deep <= 15; deep++) {
                String sum = bracketed(sort[0], sort[1], deep);
                Check.dueFault("a=" + sum + ";", 3 + 12 * wide);
                Check.dueFault("a=c+" + sum + ";", 5 + 12 * wide);
                Check.dueFault("@[" + sum + "]=1;", 3 + 12 * wide);
                Check.dueFault("@[1]=" + sum + ";", 6 + 12 * wide);
                Check.dueFault("?" + sum + "{}", 2 + 12 * wide);
                Check.dueFault("?1{".repeat(8) + "a=" + sum + ";", 27 + 12 * wide);
            }
        }
        Check.dueStatements("?1{".repeat(8) + "a=" + bracketed("(", ")", 12) + ";" + "}".repeat(8), 9);
    }

    private static void insideOfTwelveOfAllThree() {
        Check.sentence("a (, a ~ or an @ in a sum that stands inside of twelve others of these three");
        String open = "~(@[".repeat(4);
        String close = "])".repeat(4);
        Check.dueStatements("a=" + open + "b" + close + ";", 1);
        Check.dueFault("a=" + open + "(b)" + close + ";", 19);
        Check.dueFault("a=" + open + "~b" + close + ";", 19);
        Check.dueFault("a=" + open + "@[b]" + close + ";", 19);
        Check.dueFault("a=" + open + "b+(", 21);
        Check.dueFault("a=" + open + "b+~", 21);
        Check.dueFault("a=" + open + "b+@", 21);
        Check.dueStatements("a=" + open + "b<3+$1f" + close + ";", 1);
    }

    private static void statementsBeginWithAnotherSign() {
        Check.sentence("(the @ with which a statement begins is none of them");
        Check.dueStatements("@[" + bracketed("(", ")", 12) + "]=1;", 1);
        Check.dueStatements("@[" + bracketed("~", "", 12) + "]=1;", 1);
        Check.dueStatements("@[" + bracketed("@[", "]", 12) + "]=1;", 1);
        Check.dueStatements("@[1]=" + bracketed("@[", "]", 12) + ";", 1);
        Check.dueFault("@[" + bracketed("@[", "]", 13) + "]=1;", 27);
    }

    private static void whatIsInside() {
        Check.sentence("an @ or a ( has what is up to its bracket inside of it, a ~ its factor)");
        String twelve = bracketed("(", ")", 12);
        String eleven = bracketed("(", ")", 11);
        Check.dueStatements("a=(b)+" + twelve + ";", 1);
        Check.dueStatements("a=@[b]+" + twelve + ";", 1);
        Check.dueStatements("a=~b+" + twelve + ";", 1);
        Check.dueStatements("a=~b<1>2+" + twelve + ";", 1);
        Check.dueStatements("a=~(b)+" + twelve + ";", 1);
        Check.dueStatements("a=" + twelve + "+" + twelve + ";b=" + twelve + ";", 2);
        Check.dueStatements("@[" + twelve + "]=" + twelve + ";", 1);
        Check.dueStatements("a=(" + eleven + "+" + eleven + ");", 1);
        Check.dueStatements("a=~" + eleven + "+" + twelve + ";", 1);
        Check.dueStatements("a=(~b+" + eleven + ");", 1);
        Check.dueFault("a=(~b+" + twelve + ");", 18);
        Check.dueFault("a=(b+" + twelve + ");", 17);
        Check.dueFault("a=@[b+" + twelve + "];", 18);
        Check.dueFault("a=(b)+(" + twelve + ");", 19);
        Check.dueFault("a=~" + twelve + ";", 15);
    }

    private static void insideOfEightBlocks() {
        Check.sentence("and a # or ? that stands inside of eight loops or branches.");
        String loops = "#a1{#b1{#c1{#d1{#e1{#f1{#g1{#h1{";
        String branches = "?1{".repeat(8);
        String both = "#a1{?1{#b1{?1{#c1{?1{#d1{?1{";
        for (String eight : new String[] {loops, branches, both}) {
            int next = eight.length() + 1;
            Check.dueStatements(eight + "}".repeat(8), 8);
            Check.dueStatements(eight + "z=1;@[0]=2;" + "}".repeat(8), 10);
            Check.dueFault(eight + "#i1{}" + "}".repeat(8), next);
            Check.dueFault(eight + "?1{}" + "}".repeat(8), next);
            Check.dueFault(eight + "#", next);
            Check.dueFault(eight + "?", next);
            Check.dueFault(eight + "z=1;?", next + 4);
            Check.dueFault(eight + "}?1{?", next + 4);
            Check.dueStatements(eight + "}?1{}?1{}" + "}".repeat(7) + "?1{}", 11);
        }
        Check.dueStatements("?1{}".repeat(20), 20);
        Check.dueStatements("?1{?1{}}".repeat(20), 40);
    }

    private static void compileMakesReady() {
        Check.sentence("Makes the text's program ready, in place of the one that was");
        RoundCompiler x = Check.compiled("a=b+c+d;@[0]=1;");
        Check.dueSteps("the first", x, 2);
        Check.replace(x, "a=6;");
        Check.due("work() before compile()", x.work(), 2);
        Check.dueSteps("the first again", x, 2);
        Check.due("compile()", x.compile(), 1);
        Check.due("value(0) behind compile()", x.value(0), 0);
        Check.due("work()", x.work(), 0);
        Check.dueSteps("the second", x, 1);
        Check.due("value(0)", x.value(0), 6);
        x.wipe();
        Check.due("compile() of nothing", x.compile(), 0);
        Check.dueSteps("nothing", x, 0);
        Check.due("value(0) behind nothing", x.value(0), 0);
        Check.due("peek(0) behind nothing", x.peek(0), 1);
        for (int again = 0; again < 5; again++) {
            Check.replace(x, "a=b" + "+c".repeat(again) + ";");
            Check.due("compile() of " + again, x.compile(), 1);
            Check.due("work() of " + again, x.work(), again);
        }
    }

    private static void compileAnswersAtAnyDepth() {
        Check.sentence("answers how many statements it has, at any depth, loops and branches too");
        Check.dueStatements("", 0);
        Check.dueStatements("a=1;", 1);
        Check.dueStatements("?0{a=1;}", 2);
        Check.dueStatements("#i64{a=1;}", 2);
        Check.dueStatements("?1{?1{?1{?1{?1{?1{?1{?1{a=1;}}}}}}}}", 9);
        Check.dueStatements("?1{a=1;?1{@[1]=2;}b=2;}c=3;", 6);
        Check.dueStatements("a=1;".repeat(120), 120);
    }

    private static void compileThrows() {
        Check.sentence("IllegalArgumentException when the text has a fault.");
        RoundCompiler x = new RoundCompiler();
        Check.append(x, "a=1");
        for (int again = 0; again < 3; again++) {
            Check.dueThrow("compile() of a=1", REFUSED, () -> x.compile());
        }
        Check.append(x, ";");
        Check.due("compile() of a=1;", x.compile(), 1);
        Check.append(x, "}");
        Check.dueThrow("compile() of a=1;}", REFUSED, () -> x.compile());
    }

    private static void compileThatThrowsChangesNothing() {
        Check.sentence("What throws changes nothing, but for fault().");
        RoundCompiler x = Check.compiled("a=@[1]+b+c;@[2]=7;");
        x.fill(192, 3, 5);
        x.run();
        int mixed = x.mixed();
        Check.replace(x, "d=b+c+e+f;@[9]=1;#i64{#j10{a=1;b=");
        Check.dueThrow("compile()", REFUSED, () -> x.compile());
        Check.due("fault()", x.fault(), 34);
        Check.due("work()", x.work(), 2);
        Check.due("mixed()", x.mixed(), mixed);
        Check.due("value(0)", x.value(0), 8);
        Check.dueSteps("what was ready", x, 2);
        Check.due("value(0) of what was ready", x.value(0), 8);
        Check.append(x, "2;}}");
        Check.due("compile() of the text that stayed", x.compile(), 6);
        RoundCompiler y = new RoundCompiler();
        Check.append(y, "a=b+");
        Check.dueThrow("compile()", REFUSED, () -> y.compile());
        Check.dueThrow("run() when none was ready", NOT_READY, () -> y.run());
        Check.due("work() when none was ready", y.work(), 0);
        // What a fault leaves open must not be around the next text.
        Check.append(y, "#");
        Check.replace(y, "#i64{?1{#j10{a=((((((");
        Check.dueThrow("compile()", REFUSED, () -> y.compile());
        Check.replace(y, "i=1;j=1;#i64{#j10{}}" + "?1{".repeat(8) + "a=" + bracketed("(", ")", 12) + ";" + "}".repeat(8));
        Check.due("compile() behind a fault", y.compile(), 13);
    }

    private static void faultOfTheLatest() {
        Check.sentence("The place of the fault that the latest compile() met");
        RoundCompiler x = new RoundCompiler();
        Check.append(x, "a=b");
        Check.dueThrow("compile() of a=b", REFUSED, () -> x.compile());
        Check.due("fault()", x.fault(), 4);
        Check.due("fault() again", x.fault(), 4);
        Check.append(x, ";!");
        Check.due("fault() behind write", x.fault(), 4);
        Check.dueThrow("run()", NOT_READY, () -> x.run());
        Check.due("fault() behind run", x.fault(), 4);
        Check.dueThrow("compile() of a=b;!", REFUSED, () -> x.compile());
        Check.due("fault() of the second", x.fault(), 5);
        x.wipe();
        Check.due("fault() behind wipe", x.fault(), 5);
        Check.append(x, "!");
        Check.dueThrow("compile() of !", REFUSED, () -> x.compile());
        Check.due("fault() of the third", x.fault(), 1);
    }

    private static void faultOfNone() {
        Check.sentence("0 if it met none, or there was no compile()");
        RoundCompiler x = new RoundCompiler();
        Check.due("fault() of a new object", x.fault(), 0);
        Check.append(x, "!");
        Check.due("fault() before compile()", x.fault(), 0);
        Check.dueThrow("compile()", REFUSED, () -> x.compile());
        Check.due("fault()", x.fault(), 1);
        x.wipe();
        Check.due("compile() of nothing", x.compile(), 0);
        Check.due("fault() of none", x.fault(), 0);
        Check.append(x, "a=@[192];");
        x.compile();
        Check.dueThrow("run()", IndexOutOfBoundsException.class, () -> x.run());
        Check.due("fault() behind a run that fails", x.fault(), 0);
    }
}
