/** Terms 1 of the document, sentence by sentence: the edges of tokens, grammar, and FAULTS 1 and 4. */
public final class EdgesTextTest {
    private static final String WORDS = "stage scene act me var say if else while give throw try lack always as is new nobody "
        + "int prop lamp puppet singer walker speaker mover glower row cue";

    public static void main(String[] args) {
        Checks checks = new Checks("edges of the text");
        length(checks);
        tokens(checks);
        words(checks);
        leftOut(checks);
        statements(checks);
        values(checks);
        firstFault(checks);
        tooLong(checks);
        tooMany(checks);
        tooDeep(checks);
        tooLongPaths(checks);
        behindTheGrammar(checks);
        checks.end();
    }

    private static String times(String text, int count) {
        return text.repeat(count);
    }

    private static String in(String statements) {
        return "scene s() {" + statements + "}";
    }

    private static void length(Checks checks) {
        checks.sentence("THE TEXT of a book: at most 4,000 bytes.");
        String begin = "scene s() { say 7; ";
        PromptBook longest = checks.plays(begin + times(" ", 3999 - begin.length()) + "}", 0, 0, "7");
        checks.due("a feed behind it", longest.feed(0, 0, 0, 0, 0), 20);
        // The text that has the most to do for its bytes.
        checks.plays(in("say 0" + times("|0", 1991) + ";"), 0, 0, "0");
        checks.plays(in("say 1" + times("&1", 1991) + ";"), 0, 0, "1");
        checks.sound(in(times("s();", 997)));
        checks.sound("");
        checks.sound("\n");
    }

    private static void tokens(Checks checks) {
        checks.sentence("NAMES (a letter a .. z, then letters and digits, as many as there are)");
        checks.sound("stage a: int; stage z: int; stage a0: int; stage z9: int; stage a0b1: int;");
        checks.sound("stage az: int; stage a0: int; stage a1: int; stage b: int; stage ba: int; stage b0: int; stage z9: int; stage za: "
            + "int;");
        checks.sound("stage a23456789012: int; stage b23456789012: int; stage a23456789013: int; stage a2345678901: int;");
        checks.faulty(2, "stage a23456789012: int; stage ^a23456789012: int;");
        checks.faulty(1, "stage ^`: int;");
        checks.faulty(1, "stage ^{: int;");
        checks.faulty(1, "stage ^A: int;");
        checks.faulty(1, "stage a^A: int;");
        checks.faulty(1, "stage a^_b: int;");
        checks.faulty(1, "^stage1 a: int;");
        checks.faulty(1, "stage ^0a: int;");

        checks.sentence("NUMBERS (digits, as many as there are)");
        checks.plays(in("say 0; say 9; say 10; say 007; say 999999999;"), 0, 0, "0 9 10 7 999999999");
        checks.faulty(1, in("say 1^a;"));
        checks.faulty(1, in("say 1 ^2;"));

        checks.sentence("SIGNS ( ) { } [ ] , ; : . = == != < <= > >= + - * / % ! & | # (each as long as it can be)");
        checks.plays(in("say 1==1;say 1!=1;say 1<=1;say 1>=1;say 1<1;say 1>1;say 1<-1;say 2>!1;say 2==!0;"), 0, 0, "1 0 1 1 0 0 0 1 0");
        checks.faulty(1, in("say 1 ^= = 1;"));
        checks.faulty(1, in("say 1 ^! = 1;"));
        checks.faulty(1, in("say 1 < ^= 1;"));
        checks.faulty(1, in("say 1 ==^= 1;"));
        checks.faulty(1, in("say 1 <=^= 1;"));
        checks.faulty(1, in("say 1 &^& 1;"));
        checks.faulty(1, in("say 1 |^| 1;"));
        checks.faulty(1, in("say 1 ^=> 1;"));
        for (char none : "\"$'?@\\^_`~\u007f\u0080\u00ff\0".toCharArray()) {
            PromptBook book = new PromptBook();
            checks.due("book with byte " + (int) none, Checks.take(book, " " + none), Checks.THROWS_ILLEGAL);
            checks.due("fault(0) of byte " + (int) none, book.fault(0), 1);
            checks.due("fault(1) of byte " + (int) none, book.fault(1), 1);
        }

        checks.sentence("Blanks 32 and 10 stand between as one likes.");
        checks.sound("\n \nstage\na\n:\nint\n;  \n  ");
        checks.sound("stage a:int;scene s(){a=-a;}");
        checks.faulty(1, "stage a^\t: int;");
        checks.faulty(1, "stage a^\r: int;");
        checks.faulty(1, "stage a^\u000b: int;");
        checks.faulty(1, "stage a^\u001f: int;");
        checks.faulty(1, "stage a^\u00a0: int;");
        checks.faulty(2, in("^say1();"));
    }

    private static void words(Checks checks) {
        checks.sentence("WORDS are the NAMES stage .. cue: they name nothing else ahead of a . .");
        for (String word : WORDS.split(" ")) {
            checks.faulty(1, "stage ^" + word + ": int;");
            checks.faulty(1, "scene ^" + word + "() {}");
            checks.faulty(1, "act prop ^" + word + "() {}");
            checks.faulty(1, "scene s(^" + word + ": int) {}");
            checks.faulty(1, in("var ^" + word + ": int = 0;"));
            checks.faulty(1, in("try {} cue (^" + word + ") {}"));
            checks.sound("stage " + word + "s: int; scene " + word + "0() {}");
        }
        checks.sentence("Behind a . a NAME may be a WORD.");
        checks.sound("stage p: puppet; stage l: lamp; stage r: row; scene s() { l = p.lamp; p.lamp = l; r = p.row; p.row = nobody; }");
        for (String word : WORDS.split(" ")) {
            if (!word.equals("lamp") && !word.equals("row")) {
                checks.faulty(2, "stage p: puppet; " + in("say p.^" + word + ";"));
                checks.faulty(2, "stage p: puppet; " + in("say p.^" + word + "(1);"));
            }
        }
    }

    private static void leftOut(Checks checks) {
        checks.sentence("book: {STAGE} {SCENE or ACT}.");
        checks.sound("stage a: int; act prop b() {} scene c() {} act lamp d() {}");
        checks.faulty(1, "scene a() {} ^stage b: int;");
        checks.faulty(1, "stage a: int; ^;");
        checks.faulty(1, "^say 1;");

        checks.sentence("SCENE: scene NAME ( [NAME : TYPE {, NAME : TYPE}] ) [: TYPE] BLOCK. ACT: act KIND NAME ( ..");
        checks.sound("scene a() {} scene b(x: int) {} scene c(x: int, y: row): cue {}");
        checks.faulty(1, "scene a(^,) {}");
        checks.faulty(1, "scene a(x: int,^) {}");
        checks.faulty(1, "scene a(x: int ^y: int) {}");
        checks.faulty(1, "scene a() ^;");
        checks.faulty(1, "scene a(): ^{}");
        checks.faulty(1, "act ^a() {}");
        for (String none : "int row cue speaker mover glower nobody".split(" ")) {
            checks.faulty(1, "act ^" + none + " a() {}");
        }
        checks.faulty(1, "stage a: ^nobody;");

        checks.sentence("if ( E ) BLOCK {else if ( E ) BLOCK} [else BLOCK]   while ( E ) BLOCK");
        checks.sound(in("if (1) {} if (1) {} else {} if (1) {} else if (2) {} else if (3) {} while (0) {}"));
        checks.faulty(1, in("if (1) {} else {} ^else {}"));
        checks.faulty(1, in("if (1) {} else ^while (1) {}"));
        checks.faulty(1, in("if (^) {}"));
        checks.faulty(1, in("while (0) {} ^else {}"));

        checks.sentence("try BLOCK {lack ( NUMBER {, NUMBER} ) BLOCK | cue ( NAME ) BLOCK} [always BLOCK], with at least one behind the "
            + "first BLOCK.");
        checks.sound(in("try {} lack (1) {} try {} cue (a) {} try {} always {} try {} cue (a) {} lack (2, 3) {} always {}"));
        checks.faulty(1, in("try {} ^"));
        checks.faulty(1, in("try {} ^try {} always {}"));
        checks.faulty(1, in("try {} lack (^) {}"));
        checks.faulty(1, in("try {} lack (1,^) {}"));
        checks.faulty(1, in("try {} lack (^a) {}"));
        checks.faulty(1, in("try {} cue (^) {}"));
        checks.faulty(1, in("try {} cue (a^: cue) {}"));
        checks.faulty(1, in("try {} always {} ^cue (a) {}"));
    }

    private static void statements(Checks checks) {
        checks.sentence("PATH = E ; (the PATH is a NAME, or ends in a field or an item)   PATH ; (it ends in a call)");
        checks.faulty(1, in("me ^= nobody;"));
        checks.faulty(1, in("(a) ^= 1;"));
        checks.faulty(1, in("a() ^= 1;"));
        checks.faulty(1, in("a.b() ^= 1;"));
        checks.faulty(1, in("a^;"));
        checks.faulty(1, in("me^;"));
        checks.faulty(1, in("(a)^;"));
        checks.faulty(1, in("(a())^;"));
        checks.faulty(1, in("a.b^;"));
        checks.faulty(1, in("a[0]^;"));
        checks.faulty(1, in("a().b^;"));
        checks.faulty(1, in("a ^== 1;"));
        checks.faulty(1, in("a ^a = 1;"));
        checks.faulty(1, in("a ^say 1;"));
        checks.faulty(1, in("a ^"));
        checks.faulty(1, in("a.b ^if (1) {}"));
        checks.faulty(1, in("a() ^a();"));

        checks.sentence("A PATH that a STATEMENT begins with begins with a NAME (no WORD), me or (.");
        checks.sound("stage p: puppet; scene s() { p.age = 1; s(); (new puppet).age = 2; (p).lift(); } act prop q() { me.weight = 1; "
            + "me.q(); }");
        checks.faulty(1, in("^new puppet;"));
        checks.faulty(1, in("^nobody.lift();"));
        checks.faulty(1, in("^1.go(1);"));
        checks.faulty(1, in("^[0] = 1;"));
        checks.faulty(1, in("^-a;"));
        checks.faulty(1, in("^{}"));
        checks.faulty(1, in("^;"));
    }

    private static void values(Checks checks) {
        checks.sentence("C: S [== S] (likewise != < <= > >=).");
        for (String sign : "== != < <= > >=".split(" ")) {
            checks.faulty(1, in("say 1 < 2 ^" + sign + " 3;"));
            checks.faulty(1, in("say 1 " + sign + " 2 ^> 3;"));
            checks.sound(in("say 1 " + sign + " 2 & 3 " + sign + " 4 | (1 " + sign + " 2) " + sign + " 3;"));
        }

        checks.sentence("U: - U, ! U, # U, or PATH [as KIND or ROLE | is KIND or ROLE].");
        checks.faulty(1, in("say a as prop ^as prop;"));
        checks.faulty(1, in("say a is prop ^is prop;"));
        checks.faulty(1, in("say a as prop^.weight;"));
        for (String none : "int row cue nobody a".split(" ")) {
            checks.faulty(1, in("say a as ^" + none + ";"));
            checks.faulty(1, in("say a is ^" + none + ";"));
        }
        checks.faulty(1, in("say ^+ 1;"));
        checks.faulty(1, in("say 1 - ^;"));

        checks.sentence("BASE: NUMBER, nobody, me, NAME, NAME ( [E {, E}] ) (a call of a scene), ( E ), new KIND, new cue ( E ), new row "
            + "[ E ].");
        for (String none : "int speaker mover glower nobody a".split(" ")) {
            checks.faulty(1, in("say new ^" + none + ";"));
        }
        checks.faulty(1, in("say new ^;"));
        checks.faulty(1, in("say new ^.age;"));
        checks.faulty(1, in("say a.^;"));
        checks.faulty(1, in("say a.^1;"));
        checks.faulty(1, in("say a.^(1);"));
        checks.faulty(1, in("say a.^.b;"));
        checks.faulty(1, in("say (^);"));
        checks.faulty(1, in("say me^(1);"));
        checks.faulty(1, in("say nobody^(1);"));
        checks.faulty(1, in("say 1^(1);"));
        checks.faulty(1, in("say new cue(^);"));
        checks.faulty(1, in("say new cue^;"));
        checks.faulty(1, in("say new row[^];"));
        checks.faulty(1, in("say new row^(1);"));
        checks.faulty(1, in("say new prop^();"));
        checks.faulty(1, in("say a(1,^);"));
        checks.faulty(1, in("say a(^,1);"));
    }

    private static void firstFault(Checks checks) {
        checks.sentence("1 at the first token with which no book goes on (what is no token: at its first byte;");
        checks.faulty(1, in("say 1 ^1; ? $"));
        checks.faulty(1, in("say 1; ^? say 1 1;"));
        String all = "stage a : int ; scene s ( b : int , c : row ) : int { var v : int = - ( ( 1 ) ) + # c * ! 2 ; c [ 0 ] = nobody ; "
            + "if ( v == 1 & 2 | 3 ) { say s ( 1 , c ) ; } else { give 1 ; } try { { ";
        for (int end = all.indexOf(' '); end >= 0; end = all.indexOf(' ', end + 1)) {
            if (end < all.lastIndexOf("{ ")) {
                checks.faulty(1, all.substring(0, end) + "^?");
            }
        }
        checks.sentence("the text's length, if it ends too soon;");
        for (int end = all.indexOf(' '); end >= 0; end = all.indexOf(' ', end + 1)) {
            if (end < all.lastIndexOf("{ ") && !all.startsWith("; scene", end - 1)) {
                checks.faulty(1, all.substring(0, end) + "^");
            }
        }
        checks.faulty(1, "stage^");
        checks.faulty(1, "stage a: int^");
        checks.faulty(1, "stage a: int \n ^");
        checks.faulty(1, "scene s() {^");
        checks.faulty(1, "scene s() { say^");
        checks.faulty(1, "act^");
        PromptBook cut = new PromptBook();
        Checks.feed(cut, "scene s() { say 1; }");
        checks.due("book(19)", Checks.bookOf(cut, 19), Checks.THROWS_ILLEGAL);
        checks.due("fault(0)", cut.fault(0), 1);
        checks.due("fault(1)", cut.fault(1), 19);
        checks.sentence("of PATH = and PATH ; the = or ; if the PATH doesn't end so).");
        checks.faulty(1, in("a.b.c()[0].d() ^= zz;"));
        checks.faulty(1, in("a.b.c()[0]^; ?"));
    }

    private static void tooLong(Checks checks) {
        checks.sentence("4 at a token of too much, ahead of 1 for the same token: a NAME of more than 12, a NUMBER of more than 9 signs,");
        checks.sound("stage abcdefghijkl: int; scene a23456789012() {}");
        checks.faulty(4, "stage ^abcdefghijklm: int;");
        checks.faulty(4, "^abcdefghijklm");
        checks.faulty(1, "^abcdefghijkl");
        checks.faulty(4, "stage a: int ^stagestagesta;");
        checks.faulty(4, "stage p: puppet; " + in("say p.^abcdefghijklm;"));
        checks.faulty(4, "stage p: puppet; " + in("say p. ^" + times("a", 3000) + ";"));
        checks.sound(in("say 123456789; say 000000000;"));
        checks.faulty(4, in("say ^1234567890;"));
        checks.faulty(4, in("say ^0000000000;"));
        checks.faulty(4, in("say 1 ^1234567890;"));
        checks.faulty(4, in("say ^" + times("9", 3000) + ";"));
        checks.faulty(4, in("try {} lack (^0000000001) {}"));
    }

    private static String numbered(String before, int count, String behind) {
        StringBuilder all = new StringBuilder();
        for (int i = 0; i < count; i++) {
            all.append(before).append(i).append(behind);
        }
        return all.toString();
    }

    private static void tooMany(Checks checks) {
        String stages = numbered("stage t", 12, ":int;");
        String scenes = numbered("scene s", 16, "(){}");
        String acts = numbered("act lamp a", 8, "(){}") + numbered("act prop a", 8, "(){}");
        checks.sentence("the NAME of a 13th STAGE, 17th SCENE, 17th ACT,");
        checks.sound(stages + scenes + acts);
        checks.faulty(4, stages + "stage ^x:int;");
        checks.faulty(4, stages + "stage ^t0:int;");
        checks.faulty(4, scenes + acts + "scene ^x(){}");
        checks.faulty(4, scenes + acts + "act walker ^x(){}");
        checks.faulty(1, stages + "stage ^:");
        checks.faulty(1, scenes + "scene ^(){}");
        checks.faulty(1, acts + "act ^x(){}");

        checks.sentence("sixth parameter,");
        String five = "a:int,b:int,c:int,d:int,e:int";
        checks.sound("scene s(" + five + "){} act lamp t(" + five + "){}");
        checks.faulty(4, "scene s(" + five + ",^f:int){}");
        checks.faulty(4, "act lamp t(" + five + ",^a:int){}");
        checks.faulty(1, "scene s(" + five + ",^){}");

        checks.sentence("17th local of a SCENE or ACT (parameters, var and cue ( ) together),");
        String fifteen = "(a:int,b:int){try{}cue(c){}try{}cue(c){}if(1){" + numbered("var v", 5, ":int=0;") + "}else{"
            + numbered("var v", 6, ":int=0;") + "}";
        checks.sound("scene s" + fifteen + "var w:int=0;} act lamp t" + fifteen + "try{}cue(w){}}");
        checks.faulty(4, "scene s" + fifteen + "var w:int=0;var ^x:int=0;}");
        checks.faulty(4, "scene s" + fifteen + "var w:int=0;try{}cue(^w){}}");
        checks.faulty(4, "scene s" + fifteen + "try{}cue(w){var ^x:int=0;}}");
        checks.faulty(4, "scene s() {" + numbered("var v", 16, ":int=0;") + "var ^x:int=0;}");
        checks.faulty(1, "scene s() {" + numbered("var v", 16, ":int=0;") + "var ^:int=0;}");
        checks.plays("scene main(a: int) {" + numbered("var v", 15, ":int=a+1;") + "v14=9;say a+v0+v13*10+v14*100;}", 0, 0, "911");
    }

    private static void tooDeep(Checks checks) {
        checks.sentence("a ( [ or brace, or a - ! # of U, that is within 10 such ones (of one SCENE or ACT; a - ! # is around its U),");
        checks.sound("scene s() {" + times("if(1){", 9) + times("}", 10) + " scene t() {" + times("if(1){", 9) + times("}", 10));
        checks.faulty(4, "scene s() {" + times("while(1){", 9) + "while^(1){}" + times("}", 10));
        checks.faulty(4, "scene s() {" + times("try{", 9) + "try^{}");
        for (String sign : "- ! # (".split(" ")) {
            checks.faulty(4, in("say " + times(sign, 9) + "^" + sign + "1"));
        }
        checks.sound(in("say " + times("(", 9) + "1" + times(")", 9) + "; say " + times("-!", 4) + "-1;"));
        checks.sound("stage r: row; " + in("say " + times("-", 8) + "#r;"));
        checks.faulty(4, "stage r: row; " + in("say " + times("-", 9) + "^#r;"));
        checks.sound("stage p: puppet; " + in("p = " + times("p.row[#", 4) + "p.row[0].row" + times("].row", 3) + "];"));
        checks.faulty(4, "stage p: puppet; " + in("p = " + times("p.row[#", 4) + "p.row[^#p.row"));
        checks.faulty(4, "stage p: puppet; " + in("p = -(-(-(-(-p.row^[0]))));"));
        checks.faulty(4, in("say -(-(-(-(!s^()))));"));
        checks.faulty(4, in("say -(-(-(-(!new row^[0]))));"));
        checks.faulty(4, in("say -(-(-(-(!new cue^(0)))));"));
        checks.faulty(4, in("say " + times("(", 9) + "1 ^("));
        checks.faulty(4, in("say " + times("(", 9) + "^[1"));
        checks.faulty(4, in("say " + times("(", 9) + "^{1"));
        checks.faulty(1, in("say " + times("(", 9) + "1 ^}"));
        checks.faulty(1, in("say " + times("(", 9) + "1 ^]"));
        checks.faulty(1, in("say " + times("(", 9) + "1 ^!"));
        // What is closed is around nothing any more.
        checks.sound(in(times("say " + times("(-", 4) + "1" + times(")", 4) + "-(!(-1));", 20)));
        checks.sound(in("say " + times("-", 9) + "1" + times(" - 1", 20) + ";"));
    }

    private static void tooLongPaths(Checks checks) {
        checks.sentence("a . or [ that is the ninth of a PATH.");
        String head = "stage p: puppet; ";
        checks.sound(head + in("p = p" + times(".master", 8) + ";"));
        checks.faulty(4, head + in("p = p" + times(".master", 8) + "^.master;"));
        checks.faulty(4, head + in("p = p" + times(".row[0]", 4) + "^.master;"));
        checks.faulty(4, head + in("p = p.master" + times(".row[0]", 3) + ".row^[0];"));
        checks.faulty(4, head + in("p = p" + times(".first()", 7) + ".row^[0];"));
        checks.sound(head + in("p" + times(".master", 8) + " = p; p" + times(".first()", 8) + ";"));
        checks.faulty(4, head + in("p" + times(".master", 8) + "^.age = 1;"));
        checks.faulty(4, head + in("p" + times(".master", 8) + "^. ?"));
        checks.faulty(4, head + in("p" + times(".master", 8) + "^[ ?"));
        checks.sound(head + in("p = (p" + times(".master", 8) + ")" + times(".master", 8) + ";"));
        checks.sound(head + in("p = p.row[p" + times(".master", 7) + ".age]" + times(".master", 6) + ";"));
        checks.faulty(4, head + in("p = p.row[p" + times(".master", 8) + "^.age];"));
    }

    private static void behindTheGrammar(Checks checks) {
        checks.sentence("If there is none of these: then, in this order: each STAGE's NAME that an earlier one has, ..");
        checks.faulty(1, "stage a: int; stage a: int; scene s() { say zz; } scene s() {} ^;");
        checks.faulty(4, "stage a: int; stage a: int; scene s() { say zz; } scene ^abcdefghijklm() {}");
        String faults = "scene s(x: int, x: int) { say zz; } act walker w() {} act puppet w(): int {} act prop to() {} scene s() {}";
        checks.faulty(2, "stage a: int; stage ^a: int; " + faults);
        checks.faulty(2, faults.replace("scene s() {}", "scene ^s() {}"));
        checks.faulty(2, faults.replace("scene s() {}", "scene t() {}").replace("to()", "^to()"));
        checks.faulty(2, "scene s(x: int, ^x: int) { say zz; } act walker w() {} act puppet w(): int {}");
        checks.faulty(3, "scene s(x: int) { say zz; } act walker ^w() {} act puppet w(): int {}");
        checks.faulty(2, "scene s(x: int) { say ^zz; } act walker w(): int {} act puppet w(): int { say yy; }");

        checks.sentence("each ACT's that an earlier one of its KIND has, or that is a field or call of this KIND (for puppet also of "
            + "singer or walker)");
        checks.sound("act puppet q() {} act singer q() {} act walker q() {} act prop q() {} act lamp q() {}");
        checks.faulty(2, "act lamp q() {} act lamp ^q() {}");
        for (String taken : "weight owner inside heft to go".split(" ")) {
            checks.faulty(2, "act prop ^" + taken + "() {}");
        }
        for (String taken : "light next on far glow".split(" ")) {
            checks.faulty(2, "act lamp ^" + taken + "() {}");
        }
        for (String taken : "age held master word lift ask shine many first shout pitch line glow pace next go".split(" ")) {
            checks.faulty(2, "act puppet ^" + taken + "() {}");
        }
        for (String taken : "age held master word lift ask shine many first shout pitch line glow".split(" ")) {
            checks.faulty(2, "act singer ^" + taken + "() {}");
        }
        for (String taken : "age held master word lift ask shine many first shout pace line next go".split(" ")) {
            checks.faulty(2, "act walker ^" + taken + "() {}");
        }
        checks.sound("act singer pace() {} act singer next() {} act singer go() {} act walker pitch() {} act walker glow() {}");
        checks.sound("act lamp weight() {} act prop light() {} act puppet number() {} act puppet about() {}");

        checks.sentence("each ACT of singer or walker that has the NAME of one of puppet, but not the same types of parameters and the "
            + "same type (or none)");
        checks.sound("act puppet q(a: int, b: row): cue {} act singer q(c: int, d: row): cue {}");
        checks.faulty(3, "act puppet q(a: int, b: row) {} act singer ^q(a: int) {}");
        checks.faulty(3, "act puppet q(a: int, b: row) {} act singer ^q(a: int, b: row, c: int) {}");
        checks.faulty(3, "act puppet q(a: int, b: row) {} act singer ^q(a: row, b: int) {}");
        checks.faulty(3, "act puppet q(a: puppet) {} act singer ^q(a: singer) {}");
        checks.faulty(3, "act puppet q(): int {} act walker ^q() {}");
        checks.faulty(3, "act walker ^q(): int {} act puppet q() {}");
        checks.sound("act singer q(): int {} act walker q() {} act prop q(a: int) {}");

        checks.sentence("the NAME of a var, of cue ( ) ahead of what is behind it; of a call its NAME, then its parts, how many they "
            + "are, their types, what it gives");
        String head = "scene t(i: int, j: int) {} ";
        checks.faulty(2, head + in("var a: int = 1; var ^a: int = zz;"));
        checks.faulty(2, head + in("try {} cue (a) { try {} cue (^a) { say zz; } }"));
        checks.faulty(2, head + in("say ^none(zz);"));
        checks.faulty(2, head + in("say t(1, 2, ^zz);"));
        checks.faulty(3, head + in("say t(-^nobody);"));
        checks.faulty(3, head + in("say ^t(nobody);"));
        checks.faulty(3, head + in("say t(1, ^nobody);"));
        checks.faulty(3, head + in("say ^t(1, 1);"));
    }
}
