/** Promises 6 to 8: work, run, value. */
public final class RunTest {
    private static final Class<IndexOutOfBoundsException> OUTSIDE = IndexOutOfBoundsException.class;

    public static void main(String[] args) {
        Check.all(
                RunTest::workCountsWhatIsNotSettled,
                RunTest::workIsOfWhatIsReady,
                RunTest::sums,
                RunTest::turnsAndMoves,
                RunTest::numbers,
                RunTest::words,
                RunTest::loops,
                RunTest::branches,
                RunTest::steps,
                RunTest::aRunBeginsWithNamesOfZero,
                RunTest::runsThatFail,
                RunTest::whatIsNotUsedDoesNotFail,
                RunTest::aFailedRunChangesNothing,
                RunTest::addressIsWorkedOutFirst,
                RunTest::deepestSums,
                RunTest::longestRun,
                RunTest::valueAnswersNamesOnly);
    }

    private static void workCountsWhatIsNotSettled() {
        Check.dueWork("", 0);
        Check.dueWork("a=1;", 0);
        Check.dueWork("a=b;", 0);
        Check.dueWork("a=1+2-3*4&5|6^7;", 0);
        Check.dueWork("a=b+2-3*4&5|6^7;", 6);
        Check.dueWork("a=1+2+b;", 1);
        Check.dueWork("a=1+b+2;", 2);
        Check.dueWork("a=b+(1+2);", 1);
        Check.dueWork("a=(1+2)*(3+4);", 0);
        Check.dueWork("a=(b)*(3+4);", 1);
        Check.dueWork("a=((5))+(((6)));", 0);
        Check.dueWork("a=~5;", 0);
        Check.dueWork("a=~b;", 1);
        Check.dueWork("a=~~5<3>2;", 0);
        Check.dueWork("a=~~b<3>2;", 4);
        Check.dueWork("a=~(5<3)+6>1;", 0);
        Check.dueWork("a=1+b<3;", 2);
        Check.dueWork("a=1+2<3;", 0);
        Check.dueWork("a=@[1+2];", 0);
        Check.dueWork("a=@[1]+2;", 1);
        Check.dueWork("a=~@[1];", 1);
        Check.dueWork("a=@[1]<2;", 1);
        Check.dueWork("a=@[b+2]+@[3+4];", 2);
        Check.dueWork("@[1+2]=3+4;", 0);
        Check.dueWork("@[b+2]=3+c;", 2);
        Check.dueWork("?1+2{a=b+c;}", 1);
        Check.dueWork("?b+2{a=1+2;}", 1);
        Check.dueWork("?0{a=b+c;}", 1);
        Check.dueWork("#i9{a=i+1;b=2+2;}", 1);
        Check.dueWork("a=0*b;", 1);
        Check.dueWork("a=5;b=6;c=5+a;d=5+6;", 1);
        Check.dueWork("?1{a=2;}b=3+4;", 0);
        Check.dueWork("@[5]=6;a=b+7+8;", 2);
    }

    private static void workIsOfWhatIsReady() {
        RoundCompiler x = new RoundCompiler();
        Check.append(x, "a=b+c;");
        Check.due("work() before compile()", x.work(), 0);
        x.compile();
        Check.due("work()", x.work(), 1);
        x.run();
        Check.due("work() behind run()", x.work(), 1);
        Check.append(x, "d=b+c+a;");
        Check.due("work() of what is ready", x.work(), 1);
        x.compile();
        Check.due("work() of the new one", x.work(), 3);
        for (int again = 0; again < 4; again++) {
            x.compile();
            Check.due("work() of the same once more", x.work(), 3);
        }
        x.wipe();
        x.compile();
        Check.due("work() of the empty text", x.work(), 0);
    }

    private static void sums() {
        Check.dueValue("a=1+2*3;", 'a', 9);
        Check.dueValue("x=1;y=2;z=3;a=x+y*z;", 'a', 9);
        Check.dueValue("x=5;a=x-7;", 'a', -2);
        Check.dueValue("x=5;a=7-x;", 'a', 2);
        Check.dueValue("x=5;a=x-(1-x);", 'a', 9);
        Check.dueValue("x=12;a=x&10|1^3;", 'a', 10);
        Check.dueValue("a=12&10|1^3;", 'a', 10);
        Check.dueValue("x=6;a=x^3;b=x|3;c=x&3;", 'a', 5);
        Check.dueValue("x=6;a=x^3;b=x|3;c=x&3;", 'b', 7);
        Check.dueValue("x=6;a=x^3;b=x|3;c=x&3;", 'c', 2);
        Check.dueValue("x=4294967295;a=x+2;", 'a', 1);
        Check.dueValue("x=$80000000;a=x-1;", 'a', Integer.MAX_VALUE);
        Check.dueValue("x=$12345678;a=x*x;", 'a', 0x12345678 * 0x12345678);
        Check.dueValue("a=$12345678*$12345678;", 'a', 0x12345678 * 0x12345678);
        Check.dueValue("x=5;a=~x;", 'a', -6);
        Check.dueValue("x=5;a=~x+1;", 'a', -5);
        Check.dueValue("x=5;a=~(x+1);", 'a', -7);
        Check.dueValue("a=a+1;a=a+a;a=a+a;", 'a', 4);
    }

    private static void turnsAndMoves() {
        Check.dueValue("x=$80000001;a=x<1;", 'a', 3);
        Check.dueValue("a=$80000001<1;", 'a', 3);
        Check.dueValue("x=$80000001;a=x<31;", 'a', 0xc0000000);
        Check.dueValue("x=$80000001;a=x>1;", 'a', 0x40000000);
        Check.dueValue("a=$80000001>1;", 'a', 0x40000000);
        Check.dueValue("x=$80000001;a=x>31;", 'a', 1);
        Check.dueValue("x=$12345678;a=x<8>4<$1c;", 'a', (0x34567812 >>> 4) << 28 | (0x34567812 >>> 8));
        Check.dueValue("x=3;a=1+x<2;", 'a', 13);
        Check.dueValue("x=3;a=(1+x)<2;", 'a', 16);
        Check.dueValue("x=1;a=~x<1;", 'a', 0xfffffffd);
        Check.dueValue("x=1;a=~(x<1);", 'a', 0xfffffffd);
        Check.dueValue("x=2;a=~x>1;", 'a', 0x7ffffffe);
        Check.dueValue("x=2;a=~(x>1);", 'a', 0xfffffffe);
    }

    private static void numbers() {
        Check.dueValue("a=4294967295;", 'a', -1);
        Check.dueValue("a=2147483648;", 'a', Integer.MIN_VALUE);
        Check.dueValue("a=0000000017;", 'a', 17);
        Check.dueValue("a=$ffffffff;", 'a', -1);
        Check.dueValue("a=$10;", 'a', 16);
        Check.dueValue("a=$9abcdef0;", 'a', 0x9abcdef0);
        Check.dueValue("a=$000000af;", 'a', 175);
        Check.dueValue("#i$10{a=a+1;}", 'a', 16);
        Check.dueValue("a=1<$0a;", 'a', 1024);
    }

    private static void words() {
        RoundCompiler x = Check.compiled("a=@[0];b=@[191];@[a]=@[b]+1;@[a+1]=@[@[b]];");
        x.poke(0, 20);
        x.poke(191, 30);
        x.poke(30, 40);
        x.poke(40, 50);
        Check.due("run()", x.run(), 4);
        Check.due("word 20", x.peek(20), 41);
        Check.due("word 21", x.peek(21), 50);
        Check.due("run() again", x.run(), 4);
        RoundCompiler y = Check.ran("@[0]=1;@[191]=2;@[191]=@[191]+@[0];");
        Check.due("word 0", y.peek(0), 1);
        Check.due("word 191", y.peek(191), 3);
        RoundCompiler z = Check.compiled("@[5]=@[5]+1;");
        z.run();
        z.run();
        Check.due("word 5 of two runs", z.peek(5), 2);
    }

    private static void loops() {
        Check.dueValue("#i5{a=a*10+i;}", 'a', 1234);
        Check.dueValue("#i5{a=a*10+i;}", 'i', 4);
        Check.dueValue("i=9;#i1{a=i+7;}", 'a', 7);
        Check.dueValue("i=9;#i1{a=i+7;}", 'i', 0);
        Check.dueValue("#i64{}", 'i', 63);
        Check.dueValue("#i3{}b=i;#i2{a=a+i;}", 'b', 2);
        Check.dueValue("#i3{}i=i+5;", 'i', 7);
        Check.dueValue("#i2{#j3{a=a*10+(i*3+j);}}", 'a', 12345);
        Check.dueValue("#i2{#j3{}}", 'j', 2);
        Check.dueValue("#i3{a=a+j;#j3{}}", 'a', 4);
        Check.dueValue("#i3{j=j+1;#j2{a=a+1;}j=j+5;}", 'j', 6);
        Check.dueValue("#i3{?i{a=a+i;}}", 'a', 3);
    }

    private static void branches() {
        Check.dueValue("?1{a=5;}b=6;", 'a', 5);
        Check.dueValue("?0{a=5;}b=6;", 'a', 0);
        Check.dueValue("?0{a=5;}b=6;", 'b', 6);
        Check.dueValue("?4294967295{a=5;}", 'a', 5);
        Check.dueValue("?$80000000{a=5;}", 'a', 5);
        Check.dueValue("?x+1{a=5;}", 'a', 5);
        Check.dueValue("?x{?1{a=5;}b=4;}c=3;", 'b', 0);
        Check.dueValue("?x{#i3{a=5;}}i=i+1;", 'i', 1);
        Check.dueValue("?1{}?0{}?1{}a=7;", 'a', 7);
        Check.dueValue("?1{a=1;}?a{a=2;}?a-2{a=3;}", 'a', 2);
    }

    private static void steps() {
        Check.dueSteps("", 0);
        Check.dueSteps("a=1;@[0]=2;", 2);
        Check.dueSteps("#i5{}", 0);
        Check.dueSteps("?1{}", 0);
        Check.dueSteps("#i5{a=1;b=2;}", 10);
        Check.dueSteps("#i5{?i>1{a=1;}}c=1;", 4);
        Check.dueSteps("#i5{#j4{@[j]=i;}b=1;}", 25);
        Check.dueSteps("?0{a=1;b=2;}", 0);
        Check.dueSteps("?1{?1{a=1;}b=2;}", 2);
        RoundCompiler x = Check.compiled("a=1;b=2;");
        x.run();
        Check.due("run() again", x.run(), 2);
    }

    private static void aRunBeginsWithNamesOfZero() {
        RoundCompiler x = Check.compiled("a=a+1;z=z+2;@[0]=@[0]+a;");
        x.run();
        x.run();
        x.run();
        Check.due("a", x.value(0), 1);
        Check.due("z", x.value(25), 2);
        Check.due("word", x.peek(0), 3);
        Check.replace(x, "b=a+z;");
        x.compile();
        Check.due("a behind compile()", x.value(0), 1);
        x.run();
        Check.due("a of the next program", x.value(0), 0);
        Check.due("b of the next program", x.value(1), 0);
    }

    private static void runsThatFail() {
        Check.dueFail("a=@[192];");
        Check.dueFail("a=@[4294967295];");
        Check.dueFail("a=@[$80000000];");
        Check.dueFail("a=@[2147483647];");
        Check.dueFail("a=@[0-1];");
        Check.dueFail("@[192]=1;");
        Check.dueFail("@[4294967295]=1;");
        Check.dueFail("@[$80000000]=1;");
        Check.dueFail("@[300]=@[1];");
        Check.dueFail("@[1]=@[300];");
        Check.dueFail("@[@[300]]=1;");
        Check.dueFail("a=@[300]*0;");
        Check.dueFail("a=@[@[192]];");
        Check.dueFail("?@[192]{}");
        Check.dueFail("#i64{@[i*4]=1;}");
        Check.dueFail("?1{?1{a=@[192];}}");
    }

    private static void whatIsNotUsedDoesNotFail() {
        Check.dueSteps("?0{a=@[192];@[192]=1;}", 0);
        Check.dueSteps("#i48{@[i*4]=1;}", 48);
        Check.dueSteps("#i3{?i-3{a=@[191];}}", 3);
        Check.dueSteps("a=192;b=4294967295;", 2);
    }

    private static void aFailedRunChangesNothing() {
        RoundCompiler x = Check.ran("a=5;i=6;@[0]=7;@[191]=8;");
        Check.replace(x, "a=1;b=2;@[0]=3;#i64{@[i]=i+9;}@[191]=4;c=@[192];");
        Check.due("compile()", x.compile(), 7);
        int before = x.mixed();
        for (int again = 0; again < 2; again++) {
            Check.dueThrow("run()", OUTSIDE, () -> x.run());
            Check.due("mixed()", x.mixed(), before);
            Check.due("word 0", x.peek(0), 7);
            Check.due("word 1", x.peek(1), 0);
            Check.due("word 191", x.peek(191), 8);
            Check.due("a", x.value(0), 5);
            Check.due("b", x.value(1), 0);
            Check.due("i", x.value(8), 6);
            Check.due("work() stays", x.work(), 1);
        }
        RoundCompiler y = Check.compiled("a=@[@[0]];b=1+(2*(3+a));");
        y.poke(0, 192);
        Check.dueThrow("run()", OUTSIDE, () -> y.run());
        Check.due("value when no run ended", y.value(0), 0);
        y.poke(0, 3);
        y.poke(3, 4);
        Check.due("run() once it can", y.run(), 2);
        Check.due("b", y.value(1), 15);
        RoundCompiler z = Check.compiled("x=1;a=x+(x+(x+(x+(x+(x+@[@[0]]*0)))))+1;");
        z.poke(0, -1);
        for (int again = 0; again < 10; again++) {
            Check.dueThrow("run() in the midst of a sum", OUTSIDE, () -> z.run());
        }
        z.poke(0, 1);
        z.run();
        Check.due("a behind failed sums", z.value(0), 6);
    }

    private static void addressIsWorkedOutFirst() {
        RoundCompiler x = Check.ran("@[3]=4;@[@[3]]=@[3]+@[4]+1;@[@[4]]=@[4]*2;");
        Check.due("word 4", x.peek(4), 5);
        Check.due("word 5", x.peek(5), 10);
    }

    private static void deepestSums() {
        String open = "x+(".repeat(12);
        String close = ")".repeat(12);
        RoundCompiler x = Check.ran("x=1;@[" + open + "x+x" + close + "]=" + open + "x-x+x" + close + ";");
        Check.due("word 14", x.peek(14), 13);
        RoundCompiler y = Check.compiled("x=1;@[x]=" + "x+@[".repeat(12) + "x+x" + "]".repeat(12) + ";");
        y.fill(192, 0, 1);
        y.run();
        Check.due("word 1", y.peek(1), 14);
        Check.dueValue("x=1;a=" + "x-~(".repeat(6) + "x" + ")".repeat(6) + ";", 'a', 13);
    }

    private static void longestRun() {
        String inner = "a=a+1;".repeat(76);
        RoundCompiler x = Check.compiled("#i64{#j10{" + inner + "}}");
        Check.due("run()", x.run(), 640 * 76);
        Check.due("a", x.value(0), 640 * 76);
        RoundCompiler y = Check.compiled("#i64{#j10{" + "#k1{}".repeat(90) + "}}a=9;");
        Check.due("run() of empty loops", y.run(), 1);
        Check.due("a behind empty loops", y.value(0), 9);
        RoundCompiler z = Check.compiled("#i64{#j10{a=b" + "+b".repeat(225) + ";b=1;}}a=a+7;");
        Check.due("run() of long sums", z.run(), 1281);
        Check.due("a of long sums", z.value(0), 233);
    }

    private static void valueAnswersNamesOnly() {
        StringBuilder text = new StringBuilder();
        for (int name = 0; name < 26; name++) {
            text.append((char) ('a' + name)).append('=').append(name + 100).append(';');
        }
        RoundCompiler x = Check.ran(text.toString());
        for (int name = 0; name < 26; name++) {
            Check.due("value(" + name + ")", x.value(name), name + 100);
        }
        int[] none = {-1, 26, 27, 97, Integer.MIN_VALUE, Integer.MAX_VALUE};
        for (int name : none) {
            Check.dueThrow("value(" + name + ")", OUTSIDE, () -> x.value(name));
        }
    }
}
