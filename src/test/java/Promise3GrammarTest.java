/** Promise 3 and 4: FAULTS 1 and 4, and texts that have none. */
public final class Promise3GrammarTest {
    public static void main(String[] args) {
        Checks checks = new Checks("promise 3, grammar");
        tokens(checks);
        heads(checks);
        statements(checks);
        values(checks);
        tooMany(checks);
        tooDeep(checks);
        tooLongPaths(checks);
        checks.end();
    }

    private static String times(String text, int count) {
        return text.repeat(Math.max(0, count));
    }

    private static String in(String statements) {
        return "scene s() {" + statements + "}";
    }

    private static void tokens(Checks checks) {
        checks.faulty(1, "^A");
        checks.faulty(1, "stage a^$: int;");
        checks.faulty(1, "stage a^\t: int;");
        checks.faulty(1, "stage ^_a: int;");
        checks.faulty(1, "  \n ^\0");
        checks.faulty(1, "stage a: int;\n ^\u00ff");
        checks.faulty(1, "stage ^1a: int;");
        checks.faulty(1, "stage a: int  ^");
        checks.faulty(1, in("say 1^a;"));
        checks.faulty(1, in("say 1 ^\";"));
        checks.sound(in("say 1==2;say 1!=2;say 1<=2;say 1>=2;say 1<2;say 1>2;say !1;say 1<-2;"));
        checks.faulty(1, in("say 1 ^= = 2;"));
        checks.faulty(1, in("say 1 < ^= 2;"));
        checks.faulty(1, in("say 1 ==^= 2;"));
        checks.faulty(4, "stage ^abcdefghijklm: int;");
        checks.sound("stage abcdefghijkl: int; stage a2345678901b: int;");
        checks.faulty(4, in("say ^1234567890;"));
        checks.sound(in("say 123456789; say 000000001;"));
        checks.faulty(4, in("say ^0000000001;"));
        checks.faulty(4, "^abcdefghijklm");
        checks.faulty(4, in("say 1 ^abcdefghijklm"));
        checks.faulty(4, in("say 1 ^1234567890"));
        checks.faulty(1, in("say 1 ^abcdefghijkl"));
        checks.faulty(4, in("say ^stagesceneactme;"));
    }

    private static void heads(Checks checks) {
        checks.sound("");
        checks.sound("stage a:int;stage b:row;stage c:cue;stage d:speaker;stage e:mover;stage f:glower;"
            + "stage g:prop;stage h:lamp;stage i:puppet;stage j:singer;stage k:walker;");
        checks.faulty(1, "stage ^stage: int;");
        checks.faulty(1, "stage a ^int;");
        checks.faulty(1, "stage a: ^nobody;");
        checks.faulty(1, "stage a: ^a;");
        checks.faulty(1, "stage a: int ^stage");
        checks.faulty(1, "scene a() {} ^stage b: int;");
        checks.faulty(1, "^; ");
        checks.faulty(1, "scene ^(");
        checks.faulty(1, "scene ^new() {}");
        checks.faulty(1, "scene a ^{}");
        checks.faulty(1, "scene a(^");
        checks.faulty(1, "scene a(b^) {}");
        checks.faulty(1, "scene a(b: int^;) {}");
        checks.faulty(1, "scene a(b: int,^) {}");
        checks.faulty(1, "scene a(^me: int) {}");
        checks.faulty(1, "scene a() : ^{}");
        checks.faulty(1, "scene a() {^");
        checks.faulty(1, "scene a() {} ^}");
        checks.faulty(1, "act ^a() {}");
        checks.faulty(1, "act ^speaker a() {}");
        checks.faulty(1, "act ^row a() {}");
        checks.faulty(1, "act prop ^prop() {}");
        checks.sound("act prop a(x: int, y: row, z: cue): glower {} scene weight(age: int) {} act prop pitch() {}");
    }

    private static void statements(Checks checks) {
        checks.faulty(1, in("^;"));
        checks.faulty(1, in("^{}"));
        checks.faulty(1, in("^nobody;"));
        checks.faulty(1, in("^5;"));
        checks.faulty(1, in("^new prop;"));
        checks.faulty(1, in("^-x;"));
        checks.faulty(1, in("^else {}"));
        checks.faulty(1, in("^lack (1) {}"));
        checks.faulty(1, in("var ^row: int = 5;"));
        checks.faulty(1, in("var a ^= 5;"));
        checks.faulty(1, in("var a: int ^== 5;"));
        checks.faulty(1, in("var a: int = ^;"));
        checks.faulty(1, in("var a: int = 5^"));
        checks.faulty(1, in("x^;"));
        checks.faulty(1, in("x.y^;"));
        checks.faulty(1, in("x[1]^;"));
        checks.faulty(1, in("(x())^;"));
        checks.faulty(1, in("(x) ^= 5;"));
        checks.faulty(1, in("x() ^= 5;"));
        checks.faulty(1, in("x.y() ^= 5;"));
        checks.faulty(1, in("me ^= nobody;"));
        checks.faulty(1, in("me^;"));
        checks.faulty(1, in("x ^+ 1;"));
        checks.faulty(1, in("x ^as prop;"));
        checks.faulty(1, in("say^;"));
        checks.faulty(1, in("if ^1 {}"));
        checks.faulty(1, in("if (1) ^say 1;"));
        checks.faulty(1, in("if (1) {} else ^say 1;"));
        checks.faulty(1, in("if (1) {} else {} ^else {}"));
        checks.faulty(1, in("if (^) {}"));
        checks.faulty(1, in("while (1^{}"));
        checks.faulty(1, in("give 1^"));
        checks.faulty(1, in("throw ^;"));
        checks.faulty(1, in("try {} ^"));
        checks.faulty(1, in("try {} ^say 1;"));
        checks.faulty(1, in("try ^say 1;"));
        checks.faulty(1, in("try {} lack (^) {}"));
        checks.faulty(1, in("try {} lack (^-1) {}"));
        checks.faulty(1, in("try {} lack (1 ^2) {}"));
        checks.faulty(1, in("try {} cue (^1) {}"));
        checks.faulty(1, in("try {} cue (^cue) {}"));
        checks.faulty(1, in("try {} cue (a^, b) {}"));
        checks.faulty(1, in("try {} always {} ^always {}"));
        checks.faulty(1, in("try {} always {} ^lack (1) {}"));
        checks.sound(in("try {} always {}"));
        checks.sound(in("try {} lack (1, 12, 1) {} cue (a) {} lack (3) {} cue (a) {} always {}"));
        checks.sound(in("if (1) {} else if (2) {} else if (3) {} else {} if (1) {} while (0) {} give;"));
    }

    private static void values(Checks checks) {
        checks.faulty(1, in("say 1 == 2 ^== 3;"));
        checks.faulty(1, in("say 1 < 2 ^> 3;"));
        checks.faulty(1, in("say 1 & 2 == 3 ^== 4;"));
        checks.faulty(1, in("say 1 | 2 < 3 ^!= 4;"));
        checks.sound(in("say (1 == 2) == 3; say 1 == 2 & 3 == 4 | 5 != 6; say 1 + 2 * 3 - -4 % !5 < 7;"));
        checks.faulty(1, in("say 1 + ^;"));
        checks.faulty(1, in("say 1 ^2;"));
        checks.faulty(1, in("say 1 ^! 2;"));
        checks.faulty(1, in("say ^+ 2;"));
        checks.faulty(1, in("say (1^;"));
        checks.faulty(1, in("say x.^1;"));
        checks.faulty(1, in("say x.^;"));
        checks.faulty(1, in("say x[^];"));
        checks.faulty(1, in("say x[1^;"));
        checks.faulty(1, in("say f(1,^);"));
        checks.faulty(1, in("say f(^,1);"));
        checks.faulty(1, in("say new ^int;"));
        checks.faulty(1, in("say new ^speaker;"));
        checks.faulty(1, in("say new cue^;"));
        checks.faulty(1, in("say new cue(^);"));
        checks.faulty(1, in("say new cue^[1];"));
        checks.faulty(1, in("say new row^(1);"));
        checks.faulty(1, in("say new row[1^);"));
        checks.faulty(1, in("say new prop^();"));
        checks.faulty(1, in("say x as ^int;"));
        checks.faulty(1, in("say x is ^row;"));
        checks.faulty(1, in("say x as ^x;"));
        checks.faulty(1, in("say x as prop ^as prop;"));
        checks.faulty(1, in("say x as prop^.weight;"));
        checks.faulty(1, in("say ^if;"));
        checks.faulty(1, in("say ^as;"));
        checks.faulty(1, in("say nobody^(1);"));
        checks.faulty(1, in("say x.y()^();"));
        checks.faulty(2, in("say nobody.^stage;"));
        checks.faulty(2, in("say 5.^if(1);"));
    }

    private static void tooMany(Checks checks) {
        StringBuilder stages = new StringBuilder();
        StringBuilder scenes = new StringBuilder();
        StringBuilder acts = new StringBuilder();
        for (int i = 0; i < 16; i++) {
            scenes.append("scene s").append(i).append("(){}");
            acts.append("act lamp a").append(i).append("(){}");
        }
        for (int i = 0; i < 12; i++) {
            stages.append("stage t").append(i).append(":int;");
        }
        checks.sound(stages.toString() + scenes + acts);
        checks.faulty(4, stages + "stage ^x:int;");
        checks.faulty(4, stages + "stage ^t1:int;");
        checks.faulty(4, stages + "stage ^x");
        checks.faulty(1, stages + "stage ^:int;");
        checks.faulty(4, scenes + "scene ^x(){}");
        checks.faulty(4, acts + "act prop ^x(){}");
        checks.faulty(1, acts + "act ^row x(){}");
        checks.sound("scene s(a:int,b:int,c:int,d:int,e:int) {}");
        checks.faulty(4, "scene s(a:int,b:int,c:int,d:int,e:int,^f:int) {}");
        checks.faulty(1, "scene s(a:int,b:int,c:int,d:int,e:int,^) {}");
        checks.faulty(4, "act prop s(a:int,b:int,c:int,d:int,e:int,^a:int) {}");
        StringBuilder locals = new StringBuilder("scene s(a:int,b:int) { try {} cue (c) {} if (1) {");
        for (int i = 0; i < 13; i++) {
            locals.append("var v").append(i).append(":int=0;");
        }
        checks.sound(locals + "} } scene t() { var v:int=0; }");
        checks.faulty(4, locals + "} var ^v:int=0; }");
        checks.faulty(4, locals + "} try {} cue (^v) {} }");
        checks.faulty(1, locals + "} var ^int:int=0; }");
    }

    private static void tooDeep(Checks checks) {
        checks.sound("scene s() {" + times("if(1){", 9) + times("}", 10));
        checks.faulty(4, "scene s() {" + times("if(1){", 9) + "if^(1){}" + times("}", 10));
        checks.sound("scene s() {" + times("try{", 9) + times("}always{}", 9) + "}");
        checks.faulty(4, "scene s() {" + times("try{", 9) + "try^{");
        checks.sound("scene s() { say " + times("(", 9) + "1" + times(")", 9) + "; }");
        checks.faulty(4, "scene s() { say " + times("(", 9) + "^(1");
        checks.sound("scene s() { say " + times("-", 9) + "1; say " + times("!", 9) + "1; }");
        checks.faulty(4, "scene s() { say " + times("-", 9) + "^-1; }");
        checks.faulty(4, "scene s() { say " + times("!", 9) + "^#1; }");
        checks.sound("scene s() { say " + times("-", 9) + "1-1-1-1; }");
        checks.sound("scene s() { say " + times("(", 5) + times("-", 4) + "1" + times(")", 5) + "-(-1); }");
        checks.faulty(4, "scene s() { say " + times("-(", 4) + "!^(1");
        checks.faulty(4, "scene s() { say " + times("-(", 4) + "!r^[0]");
        checks.faulty(4, "scene s() { say " + times("-(", 4) + "!f^()");
        checks.faulty(4, "scene s() { say " + times("-(", 4) + "!new row^[0]");
        checks.faulty(4, "scene s() { say " + times("-(", 4) + "!new cue^(0)");
        checks.faulty(4, "scene s() { say " + times("(", 9) + "1 ^(");
        checks.faulty(4, "scene s() { say " + times("(", 9) + "1+^{");
        checks.faulty(1, "scene s() { say " + times("(", 9) + "1+^}");
        checks.faulty(1, "scene s() { say " + times("-(", 4) + "!1 ^(");
        checks.faulty(1, "scene s() { say " + times("-(", 4) + "!1 ^}");
        checks.faulty(1, "scene s() { say " + times("-(", 4) + "1 ^(");
        checks.faulty(1, "scene s() { say " + times("-(", 4) + "!1 ^!");
    }

    private static void tooLongPaths(Checks checks) {
        String book = "stage p: puppet; ";
        checks.sound(book + in("p = p" + times(".master", 8) + ";"));
        checks.faulty(4, book + in("p = p" + times(".master", 8) + "^.master;"));
        checks.faulty(4, book + in("p" + times(".row[0]", 4) + "^.row = nobody;"));
        checks.faulty(4, book + in("p" + times(".first()", 8) + "^[0] = nobody;"));
        checks.sound(book + in("p = (p" + times(".master", 8) + ").master;"));
        checks.sound(book + in("p = new row[1][0]" + times(".master", 7) + ";"));
        checks.faulty(4, book + in("p = new row[1][0]" + times(".master", 7) + "^.master;"));
    }
}
