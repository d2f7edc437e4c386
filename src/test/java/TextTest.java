/** Promises 1 to 5: a new object, write, wipe, compile, fault. */
public final class TextTest {
    private static final Class<IllegalArgumentException> REFUSED = IllegalArgumentException.class;

    public static void main(String[] args) {
        Check.all(
                TextTest::newObject,
                TextTest::writeAddsBytes,
                TextTest::writeRefusesBytes,
                TextTest::writeRefusesLength,
                TextTest::wipeLeavesWhatIsReady,
                TextTest::compileCounts,
                TextTest::compileTakesTheEdges,
                TextTest::compileReplaces,
                TextTest::compileWithFaultKeepsTheOldProgram,
                TextTest::nothingOfAFaultStays,
                TextTest::faultIsOfTheLatestCompile,
                TextTest::faultsOfTheGrammar,
                TextTest::faultsOfTextsThatEnd,
                TextTest::faultsOfNumbers,
                TextTest::faultsOfNames,
                TextTest::faultsOfLoopNumbers,
                TextTest::faultsOfDepth,
                TextTest::firstFaultCounts);
    }

    private static void newObject() {
        RoundCompiler x = new RoundCompiler();
        Check.due("new fault()", x.fault(), 0);
        Check.due("new work()", x.work(), 0);
        Check.due("new mixed()", x.mixed(), 0);
        for (int name = 0; name < 26; name++) {
            Check.due("new value(" + name + ")", x.value(name), 0);
        }
        for (int address = 0; address < 192; address++) {
            Check.due("new peek(" + address + ")", x.peek(address), 0);
        }
        Check.dueThrow("new run()", IllegalStateException.class, () -> x.run());
        Check.due("new compile()", x.compile(), 0);
        Check.due("run() of nothing", x.run(), 0);
        RoundCompiler y = Check.ran("@[3]=9;a=4;");
        RoundCompiler z = new RoundCompiler();
        Check.due("another object's word", z.peek(3), 0);
        Check.due("another object's name", z.value(0), 0);
        Check.due("the first object's word", y.peek(3), 9);
    }

    private static void writeAddsBytes() {
        RoundCompiler x = new RoundCompiler();
        Check.due("write of no bytes", x.write(0L), true);
        // a=7; with zeros between, before and behind.
        Check.due("write with zeros", x.write(0x003b_0037_003d_6100L), true);
        Check.due("statements", x.compile(), 1);
        x.run();
        Check.due("a", x.value(0), 7);
        Check.due("highest byte", x.write((long) 'b' << 56), true);
        Check.append(x, "=8;");
        Check.due("statements", x.compile(), 2);
        x.run();
        Check.due("b", x.value(1), 8);
    }

    private static void writeRefusesBytes() {
        for (int b = 1; b < 256; b++) {
            boolean isCharacter = b >= 33 && b <= 126;
            for (int k = 0; k < 8; k++) {
                RoundCompiler x = new RoundCompiler();
                Check.due("write of byte " + b + " at " + k, x.write((long) b << 8 * k), isCharacter);
            }
            RoundCompiler x = Check.compiled("a=5;");
            if (!isCharacter) {
                long ended = Check.packed("b=6;") | (long) b << 56;
                Check.due("write of b=6; and byte " + b, x.write(ended), false);
                Check.due("statements behind a refused write", x.compile(), 1);
            }
        }
        Check.due("write(-1)", new RoundCompiler().write(-1L), false);
        Check.due("write(MIN_VALUE)", new RoundCompiler().write(Long.MIN_VALUE), false);
    }

    private static void writeRefusesLength() {
        RoundCompiler x = new RoundCompiler();
        Check.append(x, "a=a+1;".repeat(79));
        Check.append(x, "a=7");
        Check.due("write of 477 + 4", x.write(Check.packed("+11;")), false);
        Check.dueThrow("compile() of 477", REFUSED, () -> x.compile());
        Check.due("fault() of 477", x.fault(), 478);
        Check.due("write of 477 + 3, with zeros", x.write(0x0000_3b00_3100_002bL), true);
        Check.due("statements of 480", x.compile(), 80);
        Check.due("write of 480 + 0", x.write(0L), true);
        Check.due("write of 480 + 1", x.write(Check.packed("b")), false);
        Check.due("write of 480 + 8", x.write(Check.packed("b=1;c=2;")), false);
        Check.due("statements still", x.compile(), 80);
        Check.due("steps of 480", x.run(), 80);
        Check.due("a of 480", x.value(0), 8);
        x.wipe();
        Check.due("write when wiped", x.write(Check.packed("b=1;")), true);
        Check.due("statements when wiped", x.compile(), 1);
        RoundCompiler full = new RoundCompiler();
        Check.append(full, "(".repeat(480));
        Check.dueThrow("compile() of 480 (", REFUSED, () -> full.compile());
        Check.due("fault() of 480 (", full.fault(), 1);
        Check.dueFault("a=" + "7".repeat(478), 3);
        Check.dueFault("a=$" + "f".repeat(477), 3);
        Check.dueFault("a=1+" + "1+".repeat(238), 481);
    }

    private static void wipeLeavesWhatIsReady() {
        RoundCompiler x = Check.compiled("a=a+@[0];");
        x.poke(0, 5);
        x.wipe();
        Check.due("work() when wiped", x.work(), 1);
        Check.due("run() when wiped", x.run(), 1);
        Check.due("a when wiped", x.value(0), 5);
        Check.due("word when wiped", x.peek(0), 5);
        Check.append(x, "b=");
        Check.dueThrow("compile()", REFUSED, () -> x.compile());
        x.wipe();
        Check.due("fault() when wiped", x.fault(), 3);
        Check.due("compile() when wiped", x.compile(), 0);
        x.wipe();
        Check.due("run() when wiped twice", x.run(), 0);
    }

    private static void compileCounts() {
        Check.dueStatements("", 0);
        Check.dueStatements("a=1;", 1);
        Check.dueStatements("@[1]=2;", 1);
        Check.dueStatements("#i1{}", 1);
        Check.dueStatements("?0{}", 1);
        Check.dueStatements("#i9{a=i;?a{b=1;@[b]=a;}}c=2;", 6);
        Check.dueStatements("?1{?2{?3{}}}?4{#i5{#j6{}}}", 6);
    }

    private static void compileTakesTheEdges() {
        Check.dueStatements("a=4294967295;", 1);
        Check.dueStatements("a=0000000000;", 1);
        Check.dueStatements("a=$ffffffff;", 1);
        Check.dueStatements("a=$0;", 1);
        Check.dueStatements("a=b<1<31>1>31;", 1);
        Check.dueStatements("a=b<0000000031>$1f<$0000001f;", 1);
        Check.dueStatements("#i1{}#i64{}#i$40{}#i0000000064{}", 4);
        Check.dueStatements("#i64{#j10{#k1{}}}", 3);
        Check.dueStatements("#i64{?1{#j10{}#k10{}}}#l64{#m10{}}", 6);
        Check.dueStatements("#i3{#j3{}#j3{}}#i3{}i=1;j=2;", 6);
        Check.dueStatements("#i3{j=i;#j2{}j=i;}", 4);
        Check.dueStatements("#i3{@[i]=i;?i{a=i;}}", 4);
        Check.dueStatements("a=" + "(".repeat(12) + "b" + ")".repeat(12) + ";", 1);
        Check.dueStatements("a=" + "~".repeat(12) + "b;", 1);
        Check.dueStatements("a=" + "@[".repeat(12) + "b" + "]".repeat(12) + ";", 1);
        Check.dueStatements("@[" + "(".repeat(12) + "b" + ")".repeat(12) + "]=" + "~".repeat(12) + "1;", 1);
        Check.dueStatements("?" + "~(@[".repeat(4) + "b" + "])".repeat(4) + "{}", 1);
        Check.dueStatements("a=" + "(".repeat(11) + "~b+~c*@[d]<3+(e)" + ")".repeat(11) + ";", 1);
        String deepest = "z=" + "(".repeat(12) + "1" + ")".repeat(12) + ";";
        Check.dueStatements("#a1{?1{#b1{?1{#c1{?1{#d1{?1{" + deepest + "}".repeat(8), 9);
        Check.dueStatements("#i2{?~i>1{}?(i){}?@[i]{}}", 4);
    }

    private static void compileReplaces() {
        RoundCompiler x = Check.ran("a=1;b=2;c=3+a;");
        Check.due("work() of the first", x.work(), 1);
        Check.replace(x, "b=b+a;");
        Check.due("compile() of the second", x.compile(), 1);
        Check.due("values stay", x.value(2), 4);
        Check.due("run() of the second", x.run(), 1);
        Check.due("a of the second", x.value(0), 0);
        Check.due("b of the second", x.value(1), 0);
        Check.append(x, "d=9;");
        Check.due("run() of what is ready", x.run(), 1);
        Check.due("d of what is ready", x.value(3), 0);
        Check.due("compile() of the longer text", x.compile(), 2);
        Check.due("compile() again", x.compile(), 2);
        Check.due("run() of the longer text", x.run(), 2);
        Check.due("d of the longer text", x.value(3), 9);
    }

    private static void compileWithFaultKeepsTheOldProgram() {
        RoundCompiler x = Check.compiled("a=@[1]+b+c;@[2]=7;");
        x.poke(1, 30);
        Check.replace(x, "a=4;b=5;c=6;d=b+c+");
        Check.dueThrow("compile()", REFUSED, () -> x.compile());
        Check.due("work() of the old one", x.work(), 2);
        Check.due("run() of the old one", x.run(), 2);
        Check.due("a of the old one", x.value(0), 30);
        Check.due("b of the old one", x.value(1), 0);
        Check.dueThrow("compile() again", REFUSED, () -> x.compile());
        Check.due("run() of the old one again", x.run(), 2);
        RoundCompiler y = new RoundCompiler();
        Check.append(y, "a=1;b");
        Check.dueThrow("compile()", REFUSED, () -> y.compile());
        Check.dueThrow("run() behind a fault", IllegalStateException.class, () -> y.run());
        Check.due("work() behind a fault", y.work(), 0);
        Check.append(y, "=2;");
        Check.due("the text has stayed", y.compile(), 2);
    }

    private static void nothingOfAFaultStays() {
        RoundCompiler x = new RoundCompiler();
        Check.append(x, "#i64{?1{#j10{a=~(b+");
        Check.dueThrow("compile()", REFUSED, () -> x.compile());
        Check.replace(x, "i=1;j=2;#i64{#j10{}}?1{?1{?1{?1{?1{?1{?1{}}}}}}}");
        Check.due("compile() behind a fault in loops", x.compile(), 11);
        Check.due("fault() behind a fault in loops", x.fault(), 0);
        Check.due("work() behind a fault in loops", x.work(), 0);
        Check.due("run() behind a fault in loops", x.run(), 2);
    }

    private static void faultIsOfTheLatestCompile() {
        RoundCompiler x = new RoundCompiler();
        Check.append(x, "a=b");
        Check.due("fault() before compile()", x.fault(), 0);
        Check.dueThrow("compile()", REFUSED, () -> x.compile());
        Check.due("fault()", x.fault(), 4);
        Check.append(x, "+c;@");
        Check.due("fault() before the next compile()", x.fault(), 4);
        Check.dueThrow("compile()", REFUSED, () -> x.compile());
        Check.due("fault() of the second", x.fault(), 8);
        Check.append(x, "[0]=1;");
        Check.due("compile()", x.compile(), 2);
        Check.due("fault() of none", x.fault(), 0);
    }

    private static void faultsOfTheGrammar() {
        Check.dueFault("}", 1);
        Check.dueFault("a=1;}", 5);
        Check.dueFault("?1{}}", 5);
        Check.dueFault("A=1;", 1);
        Check.dueFault("1=a;", 1);
        Check.dueFault("(a)=1;", 1);
        Check.dueFault(";", 1);
        Check.dueFault("a+=1;", 2);
        Check.dueFault("a=;", 3);
        Check.dueFault("a=B;", 3);
        Check.dueFault("a=1,", 4);
        Check.dueFault("a=1;;", 5);
        Check.dueFault("a=bc;", 4);
        Check.dueFault("a=1b;", 4);
        Check.dueFault("a=b1;", 4);
        Check.dueFault("a=b/c;", 4);
        Check.dueFault("a=-b;", 3);
        Check.dueFault("a=b+-c;", 5);
        Check.dueFault("a=b++c;", 5);
        Check.dueFault("a=b~c;", 4);
        Check.dueFault("a=();", 4);
        Check.dueFault("a=(b;", 5);
        Check.dueFault("a=(b];", 5);
        Check.dueFault("a=b);", 4);
        Check.dueFault("a=@b;", 4);
        Check.dueFault("a=@(b);", 4);
        Check.dueFault("a=@[];", 5);
        Check.dueFault("a=@[b);", 6);
        Check.dueFault("a=[b];", 3);
        Check.dueFault("@b]=1;", 2);
        Check.dueFault("@[b=1;", 4);
        Check.dueFault("@[b];", 5);
        Check.dueFault("@[b]=;", 6);
        Check.dueFault("@[b]=1}", 7);
        Check.dueFault("a=b<c;", 5);
        Check.dueFault("a=b<(1);", 5);
        Check.dueFault("a=b<<1;", 5);
        Check.dueFault("a=b>1c;", 6);
        Check.dueFault("#3i{}", 2);
        Check.dueFault("##", 2);
        Check.dueFault("#ij{}", 3);
        Check.dueFault("#i(3){}", 3);
        Check.dueFault("#i3;", 4);
        Check.dueFault("#i3+1{}", 4);
        Check.dueFault("#i3{;}", 5);
        Check.dueFault("?{}", 2);
        Check.dueFault("?1;", 3);
        Check.dueFault("?a=1{}", 3);
        Check.dueFault("?1{a=1}", 7);
        Check.dueFault("?1{}{}", 5);
        Check.dueFault("a=1{}", 4);
    }

    private static void faultsOfTextsThatEnd() {
        String text = "a=~(b+$1f)<3;@[a]=c;#i3{?@[i]{d=2;}}";
        String wholeEnds = ",0,13,20,36,";
        for (int end = 0; end <= text.length(); end++) {
            String start = text.substring(0, end);
            if (wholeEnds.contains("," + end + ",")) {
                RoundCompiler x = new RoundCompiler();
                Check.append(x, start);
                x.compile();
                Check.due("fault() of " + start, x.fault(), 0);
            } else {
                Check.dueFault(start, end + 1);
            }
        }
    }

    private static void faultsOfNumbers() {
        Check.dueFault("a=4294967296;", 3);
        Check.dueFault("a=9999999999;", 3);
        Check.dueFault("a=00000000000;", 3);
        Check.dueFault("a=18446744073709551617;", 3);
        Check.dueFault("a=$000000000;", 3);
        Check.dueFault("a=$100000000;", 3);
        Check.dueFault("a=4294967296", 3);
        Check.dueFault("a=b+4294967296!", 5);
        Check.dueFault("a=$;", 4);
        Check.dueFault("a=$", 4);
        Check.dueFault("a=$g;", 4);
        Check.dueFault("a=$F;", 4);
        Check.dueFault("a=$1g;", 5);
        Check.dueFault("a=$$1;", 4);
        Check.dueFault("a=12345678901a;", 3);
        Check.dueFault("a=1a;", 4);
        Check.dueFault("a=b<0;", 5);
        Check.dueFault("a=b<32;", 5);
        Check.dueFault("a=b<$20;", 5);
        Check.dueFault("a=b<00000000001;", 5);
        Check.dueFault("a=b<4294967297;", 5);
        Check.dueFault("a=b<$;", 6);
        Check.dueFault("a=b>0;", 5);
        Check.dueFault("a=b>32;", 5);
        Check.dueFault("a=b>1<32;", 7);
        Check.dueFault("a=b>$000000001;", 5);
    }

    private static void faultsOfNames() {
        Check.dueFault("#i3{i=1;}", 5);
        Check.dueFault("#i3{i", 5);
        Check.dueFault("#i3{i!", 5);
        Check.dueFault("#i3{?1{i=1;}}", 8);
        Check.dueFault("#i3{#j2{i=1;}}", 9);
        Check.dueFault("#i3{#j2{}i=1;}", 10);
        Check.dueFault("#i3{#j2{}j=1;j=2;i=3;}", 18);
        Check.dueFault("#i3{#i2{}}", 6);
        Check.dueFault("#i3{#i", 6);
        Check.dueFault("#i3{#j2{#i1{}}}", 10);
        Check.dueFault("#i3{?1{#i1{}}}", 9);
        Check.dueFault("#a3{a=1;}", 5);
        Check.dueFault("#z3{z=1;}", 5);
    }

    private static void faultsOfLoopNumbers() {
        Check.dueFault("#i0{}", 3);
        Check.dueFault("#i65{}", 3);
        Check.dueFault("#i$41{}", 3);
        Check.dueFault("#i4294967297{}", 3);
        Check.dueFault("#i00000000001{}", 3);
        Check.dueFault("#i${}", 4);
        Check.dueFault("#i64{#j11{}}", 8);
        Check.dueFault("#i64{#j64{}}", 8);
        Check.dueFault("#i64{?1{#j11", 11);
        Check.dueFault("#i64{#j10{#k2{}}}", 13);
        Check.dueFault("#i10{#j10{#k6{}#l7{}}}", 18);
        Check.dueFault("#i64{#j2{}#k11{}}", 13);
    }

    private static void faultsOfDepth() {
        Check.dueFault("a=" + "(".repeat(13) + "b" + ")".repeat(13) + ";", 15);
        Check.dueFault("a=" + "~".repeat(13) + "b;", 15);
        Check.dueFault("a=" + "@[".repeat(13) + "b", 27);
        Check.dueFault("a=" + "~(@[".repeat(4) + "b+~c", 21);
        Check.dueFault("a=" + "~(@[".repeat(4) + "b+(c", 21);
        Check.dueFault("a=" + "~(@[".repeat(4) + "b+@", 21);
        Check.dueFault("@[" + "(".repeat(13), 15);
        Check.dueFault("@[1]=" + "(".repeat(13), 18);
        Check.dueFault("?" + "(".repeat(13), 14);
        Check.dueFault("?1{".repeat(8) + "?", 25);
        Check.dueFault("?1{".repeat(8) + "#", 25);
        Check.dueFault("?1{".repeat(8) + "a=1;?1{}", 29);
        Check.dueFault("#a1{#b1{#c1{#d1{#e1{#f1{#g1{#h1{#i1{", 33);
        Check.dueFault("#a1{#b1{#c1{#d1{#e1{#f1{#g1{#h1{}?1{}#i1{}?1{?", 46);
    }

    private static void firstFaultCounts() {
        Check.dueFault("a=(b;c=99999999999;", 5);
        Check.dueFault("a=99999999999;b=(c;", 3);
        Check.dueFault("#i99{i=1;}", 3);
        Check.dueFault("?4294967296a=1;", 2);
        Check.dueFault("a=~4294967296;", 4);
        Check.dueFault("a=(4294967296;", 4);
        Check.dueFault("a=@[4294967296;", 5);
        Check.dueFault("a=b<32;", 5);
        Check.dueFault("a=b+4294967296;", 5);
        Check.dueFault("@[4294967296b=1;", 3);
        Check.dueFault("@[1]=4294967296b=1;", 6);
        Check.dueFault("#i9{i=99999999999;}", 5);
    }
}
