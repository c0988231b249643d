/** Terms 3 of the document, sentence by sentence: the edges of values, UPSETS, try, FUEL, DEEP and FULL. */
public final class EdgesPlaysTest {
    private static final String STAGES = "stage n: int; stage a: prop; stage l: lamp; stage p: puppet; stage s: singer; "
        + "stage w: walker; stage r: row; stage c: cue; stage x: speaker; stage m: mover; stage g: glower; ";
    private static final String LEAST = "(-999999999 - 999999999 - 147483650)";

    public static void main(String[] args) {
        Checks checks = new Checks("edges of plays");
        numbers(checks);
        shortened(checks);
        order(checks);
        deepest(checks);
        newThings(checks);
        stages(checks);
        giving(checks);
        ownActs(checks);
        upsets(checks);
        upsetsInCalls(checks);
        places(checks);
        tries(checks);
        always(checks);
        fuel(checks);
        behindEnds(checks);
        deep(checks);
        fullOfThings(checks);
        fullOfItems(checks);
        fullOfUpsets(checks);
        behindFull(checks);
        checks.end();
    }

    private static String in(String statements) {
        return STAGES + "scene main() {" + statements + "}";
    }

    private static void says(Checks checks, String values, String due) {
        StringBuilder all = new StringBuilder();
        for (String each : values.split(";")) {
            all.append("say ").append(each).append(';');
        }
        checks.plays(in(all.toString()), 0, 0, due);
    }

    private static void numbers(Checks checks) {
        checks.sentence("INTS have 32 bits and wrap;");
        says(checks, LEAST + ";" + LEAST + " - 1;-" + LEAST + ";" + LEAST + " * -1;0 - " + LEAST, Integer.MIN_VALUE + " "
            + "" + Integer.MAX_VALUE
            + " " + Integer.MIN_VALUE + " " + Integer.MIN_VALUE + " " + Integer.MIN_VALUE);
        says(checks, LEAST + " - 1 + 1;65536 * 65536;65536 * 32768;46341 * 46341", Integer.MIN_VALUE + " 0 " + Integer.MIN_VALUE + " "
            + 46341 * 46341);
        checks.plays(in("a = new prop; a.weight = " + LEAST + " - 1; say a.go(1); say a.go(-1);"), 0, 0, Integer.MIN_VALUE + " "
            + Integer.MAX_VALUE);
        checks.plays(in("a = new prop; a.inside = a; a.weight = 999999999; say a.heft(3);"), 0, 0, Integer.toString(999999999 * 4));
        checks.plays(in("w = new walker; w.pace = 99999; say w.line(99999);"), 0, 0, Integer.toString(99999 * 99999));

        checks.sentence("/ and % cut towards 0.");
        says(checks, "7 / 2;-7 / 2;7 / -2;-7 / -2;1 / 2;-1 / 2", "3 -3 -3 3 0 0");
        says(checks, "7 % 2;-7 % 2;7 % -2;-7 % -2;1 % 2;-1 % 2", "1 -1 1 -1 1 -1");
        says(checks, LEAST + " / -1;" + LEAST + " % -1;" + LEAST + " / 1;0 / 5;0 % -5", Integer.MIN_VALUE + " 0 "
            + "" + Integer.MIN_VALUE + " 0 0");

        checks.sentence("! gives 1 of 0, else 0; comparing gives 1 or 0;");
        says(checks, "!0;!1;!-1;!2;!!2;!" + LEAST, "1 0 0 0 1 0");
        says(checks, "1 < 1;1 <= 1;1 > 1;1 >= 1;1 == 1;1 != 1", "0 1 0 1 1 0");
        says(checks, "1 < 2;1 <= 2;1 > 2;1 >= 2;1 == 2;1 != 2", "1 1 0 0 0 1");
        says(checks, "2 < 1;2 <= 1;2 > 1;2 >= 1", "0 0 1 1");
        says(checks, LEAST + " < " + LEAST + " - 1;-1 < 0;-1 > 0", "1 1 0");

        checks.sentence("== of things: whether it is the same one.");
        checks.plays(in("p = new puppet; s = new singer; r = new row[0]; c = new cue(0); say p == p; say p == new puppet; say p != "
            + "p.master; "
            + "say p.master == nobody; say r == new row[0]; say r == r; say c == new cue(0); say c != c; say nobody == nobody; x = s; "
            + "say x == s; p = s; say p == s; say p == x as singer;"), 0, 0, "1 0 1 1 0 1 0 0 1 1 1 1");
    }

    private static void shortened(Checks checks) {
        checks.sentence("& gives 0, if the left one is 0 (the right one is not worked then), else 1, if the right one isn't 0, else 0;");
        says(checks, "0 & 1 / 0;0 & 0;5 & 0;5 & -7;-1 & 1", "0 0 0 1 1");
        checks.plays(in("say 5 & 1 / 0;"), 1, 11, "");
        checks.sentence("| likewise 1, if the left one isn't 0, else as the right one is not 0.");
        says(checks, "3 | 1 / 0;-3 | 0;0 | 0;0 | -7;0 | 2", "1 1 0 1 1");
        checks.plays(in("say 0 | 1 / 0;"), 1, 11, "");
        says(checks, "0 & 1 / 0 | 0;1 | 1 / 0 & 1 / 0;0 | 1 & 0;1 & 1 & 0 & 1 / 0;0 | 0 | 4 | 1 / 0", "0 1 0 0 1");
    }

    private static void order(Checks checks) {
        checks.sentence("of PATH = E first the PATH up to its last part (its place, too), then E, then it is done.");
        String more = " scene t(k: int): int { say k; give k; } scene q(k: int): puppet { say k; give p; } "
            + "scene o(k: int): row { say k; give r; } scene lose(k: int): int { say k; p = nobody; r = nobody; give k; }";
        checks.plays(in("o(1)[t(2)] = q(3);") + more, 1, 8, "1 2 3");
        checks.plays(in("r = new row[2]; o(1)[t(2)] = q(3);") + more, 1, 9, "1 2 3");
        checks.plays(in("q(1).age = t(2);") + more, 1, 2, "1 2");
        checks.plays(in("q(1).master.age = t(2);") + more, 1, 1, "1");
        checks.plays(in("p = new puppet; q(1).master.age = t(2);") + more, 1, 2, "1 2");
        checks.plays(in("p = new puppet; p.age = lose(4); say p == nobody;") + more, 0, 0, "4 1");
        checks.plays(in("r = new row[1]; r[0] = new walker; n = 0; r[n].age = lose(4); say r == nobody;") + more, 0, 0, "4 1");
        checks.plays(in("n = 1; r = new row[2]; r[n] = put(); say r[1] == nobody; say n;") + " scene put(): puppet { n = 0; give new "
            + "singer; }",
            0, 0, "0 0");
        checks.plays(in("n = 5; n = n + put(); say n;") + " scene put(): int { n = 7; give 1; }", 0, 0, "6");
        checks.sentence("All else is worked from the left, each part wholly:");
        checks.plays(in("n = t(1) * t(2) + t(3) * (t(4) - t(5)); say n;") + more, 0, 0, "1 2 3 4 5 -1");
        checks.plays(in("say q(1).shine(t(2) / 0);") + more, 1, 11, "1 2");
        checks.plays(in("say o(1)[1 / t(0)] == q(3);") + more, 1, 11, "1 0");
        checks.plays(in("say 5 - (1 & 1); say 5 - (0 | 1); say 5 - (0 & 1); say 5 - (1 | 0);"), 0, 0, "4 4 5 4");
        checks.plays(in("p = new singer; p.age = 3; p.row = new row[1]; p.row[0] = p; say 9 - (p as singer).pitch; say 9 - (p.first() is "
            + "singer); "
            + "say 9 - p.add(1, 2) * 2; say 9 - #p.row; say 9 - new cue(2).number; say 9 - p.row[0].age;")
            + " act puppet add(i: int, j: int): int { give i + j + me.age; }", 0, 0, "9 8 -3 8 7 6");
        // What a call, an UPSET or a CUE leaves behind must not add up.
        checks.plays(in("while (n < 150) { n = n + 1; f(1); } say 9 - f(4);") + " scene f(i: int): int { give i; }", 0, 0, "5");
        checks.plays(in("while (n < 150) { n = n + 1; (new puppet).q(); } say 9 - n;") + " act puppet q() {}", 0, 0, "-141");
        checks.plays(in("while (n < 150) { n = n + 1; try { n = 1 + (2 + (3 + 4 / 0)); } lack (11) {} } say 9 - (8 - (7 - "
            + "n));"), 0, 0, "-142");
        checks.plays(in("while (n < 150) { n = n + 1; try { n = 1 + (2 + f(3, f(4, 5))); } cue (d) {} } say 9 - (8 - (7 - n));")
            + " scene f(i: int, j: int): int { throw new cue(1); }", 0, 0, "-142");
        checks.plays(in("f(t(1), q(2), o(3), t(4), t(5));") + more + " scene f(i: int, j: puppet, k: row, h: int, e: int) { say e - h; }",
            0, 0, "1 2 3 4 5 1");
    }

    /** As many values in work at once as ten brackets, five parameters and the signs between them allow. */
    private static void deepest(Checks checks) {
        checks.sentence("a ( [ or brace, or a - ! # of U, that is within 10 such ones");
        StringBuilder value = new StringBuilder("7");
        int due = 7;
        for (int level = 9; level >= 1; level--) {
            value.insert(0, "p.sum(1, 2, 3, 4, 0 < 1 + " + level + " * ").append(')');
            due = 10 + (0 < 1 + level * due ? 1 : 0);
        }
        String acts = " act puppet sum(a: int, b: int, c: int, d: int, e: int): int { give a + b + c + d + e; }";
        checks.plays(in("p = new puppet; say 5 - 2 * " + value + ";") + acts, 0, 0, Integer.toString(5 - 2 * due));
        String sums = value.toString().replace("0 < 1", "1");
        int sum = 7;
        for (int level = 9; level >= 1; level--) {
            sum = 10 + 1 + level * sum;
        }
        checks.plays(in("p = new puppet; r = new row[1]; r[0] = p; say 0 == " + sum + " - 1 * " + sums + ";") + acts, 0, 0, "1");
    }

    private static void newThings(Checks checks) {
        checks.sentence("A new thing has 0 and nobody in all fields (a cue: number E), a row E items, nobody.");
        checks.plays(in("a = new prop; say a.weight; say a.owner == nobody; say a.inside == nobody; l = new lamp; say l.light; "
            + "say l.next == nobody; say l.on == nobody;"), 0, 0, "0 1 1 0 1 1");
        for (String kind : "puppet singer walker".split(" ")) {
            checks.plays(in("p = new " + kind + "; say p.age; say p.held == nobody; say p.master == nobody; say p.lamp == nobody; "
                + "say p.row == nobody; say p.word == nobody;"), 0, 0, "0 1 1 1 1 1");
        }
        checks.plays(in("say (new singer).pitch; say (new walker).pace; say (new walker).next == nobody;"), 0, 0, "0 0 1");
        checks.plays(in("c = new cue(-5); say c.number; say c.about == nobody; say new cue(0).number;"), 0, 0, "-5 1 0");
        checks.plays(in("say #new row[0]; r = new row[1]; say #r; say r[0] == nobody; r = new row[1000]; say #r; say r[0] == nobody; "
            + "say r[999] == nobody;"), 0, 0, "0 1 1 1000 1 1");
    }

    private static void stages(Checks checks) {
        checks.sentence("STAGES are 0, nobody when the book is taken; they stay from play to play.");
        String text = "stage n: int; stage p: puppet; scene main() { n = n + 1; if (p == nobody) { p = new puppet; } p.age = p.age + 2; "
            + "say p.age; "
            + "if (n == 3) { say 1 / 0; } }";
        PromptBook book = checks.sound(text);
        for (int i = 1; i <= 4; i++) {
            checks.due("n ahead of play " + i, book.stage(0, 0), i - 1);
            checks.due("play " + i, book.play(0, 0, 0, 9), i == 3 ? 1 : 0);
            checks.due("SAID by play " + i, Checks.said(book), Integer.toString(2 * i));
        }
        checks.due("the same text again", Checks.take(book, text), "1");
        checks.due("n", book.stage(0, 0), 0);
        checks.due("p", book.stage(1, 0), 0);
    }

    private static void giving(Checks checks) {
        checks.sentence("give ends the SCENE or ACT; one that ends without gives 0 or nobody.");
        checks.plays(in("say f(); say g() == nobody; say h(); i(); say 6;") + " scene f(): int {} scene g(): cue {} "
            + "scene h(): int { while (1) { if (1) { give 4; say 1; } } say 2; } scene i() { say 5; give; say 3; }", 0, 0, "0 1 4 5 6");
        checks.plays(in("give; say 1;"), 0, 0, "");
        checks.plays("act prop f(): int { if (me.weight) { give 7; } } scene main() { var v: prop = new prop; say v.f(); v.weight = 1; "
            + "say v.f(); "
            + "v.weight = 0; say v.f(); }", 0, 0, "0 7 0");
    }

    private static void ownActs(Checks checks) {
        checks.sentence("Of a call of an ACT: that of the thing's own KIND, if there is one, else that of puppet; me is the thing.");
        checks.plays("stage p: puppet; act puppet q(): int { give 1 + me.age; } act singer q(): int { give 2 + me.age; } "
            + "act puppet both(): int { give me.q(); } scene main() { p = new puppet; say p.q(); say p.both(); p = new singer; p.age = "
            + "10; say p.q(); say p.both(); "
            + "p = new walker; p.age = 20; say p.q(); say p.both(); }", 0, 0, "1 1 12 12 21 21");
    }

    private static void upset(Checks checks, int kind, String marked) {
        checks.upsets(in(marked), 1, kind);
    }

    private static void upsets(Checks checks) {
        checks.sentence("1 READ: a field of nobody is read. 2 WRITE: written.");
        for (String field : "a.^weight l.^light p.^age s.^age s.^pitch w.^pace w.^age c.^number".split(" ")) {
            upset(checks, 1, "say " + field + ";");
            upset(checks, 2, field + " = 1;");
        }
        for (String field : "a.^owner a.^inside l.^next l.^on p.^held p.^master p.^lamp p.^row p.^word w.^next c.^about".split(" ")) {
            upset(checks, 1, "if (" + field + " == nobody) {}");
            upset(checks, 2, field + " = nobody;");
        }
        checks.sentence("3 CALL: a call, by a KIND's type, of nobody. 4 ROLE: by a ROLE's type, of nobody.");
        String calls = "a.^heft(1) a.^to(p) a.^go(1) l.^far() l.^glow(1) p.^lift() p.^ask() p.^shine(1) p.^many() p.^first() p.^shout() "
            + "s.^line(1) s.^glow(1) w.^line(1) w.^go(1)";
        for (String call : calls.split(" ")) {
            upset(checks, 3, call + ";");
        }
        checks.upsets(in("p.^q();") + " act puppet q() {}", 1, 3);
        for (String call : "x.^line(1) m.^go(1) g.^glow(1)".split(" ")) {
            upset(checks, 4, call + ";");
        }
        checks.sentence("5 CUE: throw of nobody. 6 LENGTH: # of nobody.");
        upset(checks, 5, "^throw c;");
        upset(checks, 6, "say ^#r;");
        checks.sentence("7 ITEM: an item of nobody is read. 8 ITEM: written. 9 PLACE: there is no such item (read or written).");
        upset(checks, 7, "p = r^[0];");
        upset(checks, 7, "p = r^[-1];");
        upset(checks, 8, "r^[0] = p;");
        upset(checks, 8, "r^[-1] = p;");
        for (String place : "-1 2 3 999999999".split(" ")) {
            upset(checks, 9, "r = new row[2]; p = r^[" + place + "];");
            upset(checks, 9, "r = new row[2]; r^[" + place + "] = p;");
        }
        upset(checks, 9, "r = new row[2]; p = r^[" + LEAST + "];");
        upset(checks, 9, "r = new row[0]; p = r^[0];");
        upset(checks, 9, "r = new row[0]; r^[0] = p;");
        checks.plays(in("r = new row[2]; r[0] = new singer; r[1] = r[0]; say r[1] is singer; say r[0] is singer;"), 0, 0, "1 1");
        checks.sentence("10 KIND: as of a thing that is none of these. 11 ZERO: / or % by 0. 12 SIZE: new row of less than 0 or more "
            + "than 1,000.");
        upset(checks, 10, "p = new puppet; s = p ^as singer;");
        upset(checks, 10, "m = new prop; w = m ^as walker;");
        upset(checks, 10, "g = new lamp; x = g ^as speaker;");
        upset(checks, 11, "say 0 ^/ 0;");
        upset(checks, 11, "say 1 ^% n;");
        upset(checks, 12, "r = ^new row[-1];");
        upset(checks, 12, "r = ^new row[1001];");
        upset(checks, 12, "r = ^new row[" + LEAST + "];");
        upset(checks, 12, "r = ^new row[" + LEAST + " - 1];");
        PromptBook sized = checks.plays(in("r = new row[0]; r = new row[1000];"), 0, 0, "");
        checks.due("items", sized.about(7), 1000);
    }

    private static void upsetsInCalls(Checks checks) {
        checks.sentence("(heft: 1; to: 2; far: 1; lift: 1; ask: 3, or what lift is; shine: 4; many: 6; first: 7, 9; shout: 5), what came "
            + "ahead stays.");
        String made = "a = new prop; l = new lamp; p = new puppet; s = new singer; w = new walker; ";
        upset(checks, 1, made + "a.weight = 5; say a.^heft(0);");
        upset(checks, 2, made + "say a.^to(nobody);");
        upset(checks, 1, made + "say l.^far();");
        upset(checks, 1, made + "say p.^lift();");
        upset(checks, 1, made + "say w.^lift();");
        upset(checks, 3, made + "say p.^ask();");
        upset(checks, 3, made + "say s.^ask();");
        upset(checks, 1, made + "p.master = w; say p.^ask();");
        upset(checks, 1, made + "s.master = s; say s.^ask();");
        upset(checks, 4, made + "say p.^shine(1);");
        upset(checks, 4, made + "say s.^glow(1);");
        upset(checks, 4, made + "g = s; say g.^glow(1);");
        upset(checks, 6, made + "say p.^many();");
        upset(checks, 7, made + "p = p.^first();");
        upset(checks, 9, made + "p.row = new row[0]; p = p.^first();");
        upset(checks, 5, made + "p.^shout();");
        checks.plays(in(made + "a.owner = p; p.held = a; try { say a.to(nobody); } lack (2) { say a.owner == p; say p.held == a; "
            + "}"), 0, 0, "1 1");
        checks.plays(in(made + "p.row = new row[1]; say p.many(); say p.first() == nobody; p.row = new row[0]; say p.many();"), 0, 0, "1 "
            + "1 0");
        checks.plays(in(made + "p.lamp = l; say p.shine(-3); say l.light; s.lamp = l; s.pitch = 10; say s.glow(1); say "
            + "l.light;"), 0, 0, "-3 -3 8 -2");
    }

    private static void places(Checks checks) {
        checks.sentence("The PLACE of an upset, and of a cue by the throw it came by: the byte at which the token begins:");
        upset(checks, 1, "p = new puppet; p = p . master\n.\n ^held . owner;");
        upset(checks, 11, "say (1 + 2) * 3 ^/ n;");
        upset(checks, 6, "say - ! ^# r;");
        checks.upsets(in("p = f() ^[ n ];") + " scene f(): row {}", 1, 7);
        checks.upsets(in("c = new cue(4); try { throw c; } cue (d) { ^throw d; }"), 2, 4);
        checks.upsets(in("c = new cue(4); try { f(); } always { n = 1; }") + " scene f() { try { ^throw c; } lack (5) {} }", 2, 4);
        checks.upsets(in("p = new puppet; p.word = new cue(6); p.^shout();"), 2, 6);
        checks.upsets(in("c = new cue(4); try { throw c; } always { p.^age = 1; }"), 1, 2);
        checks.upsets(in("try { say 1 ^/ 0; } always { try { say 2 % 0; } lack (11) {} }"), 1, 11);
    }

    private static void tries(Checks checks) {
        checks.sentence("If an UPSET comes out of it, the first lack that has its kind, if a CUE, the first cue ( ) is done in its place "
            + "(the local is that cue).");
        checks.plays(in("try { say 1; } lack (11) { say 2; } cue (d) { say 3; } say 4;"), 0, 0, "1 4");
        checks.plays(in("try { say 1 / 0; say 1; } cue (d) { say 2; } lack (10, 12) { say 3; } lack (1, 11) { say 4; } lack (11) { say "
            + "5; } say 6;"),
            0, 0, "4 6");
        checks.plays(in("try { throw new cue(9); } lack (1, 2, 3, 4, 5, 6, 7, 8, 9, 10, 11, 12) { say 1; } cue (d) { say d.number; } cue "
            + "(e) { say 3; }"),
            0, 0, "9");
        checks.plays(in("c = new cue(2); try { throw c; } cue (d) { say d == c; d.number = 3; } say c.number;"), 0, 0, "1 3");
        checks.plays(in("try { say 1 / 0; } lack (10, 12) { say 1; } cue (d) { say 2; }"), 1, 11, "");
        checks.plays(in("try { throw new cue(5); } lack (5) { say 1; }"), 2, 5, "");
        checks.plays(in("try { throw c; } cue (d) { say 1; } lack (5) { say 2; }"), 0, 0, "2");
        checks.plays(in("try { say 1 / 0; } lack (11) { say 2 / 0; } lack (11) { say 3; }"), 1, 11, "");
        checks.plays(in("try { throw new cue(1); } cue (d) { throw d; } cue (e) { say 3; }"), 2, 1, "");
        int[] kinds = {1, 2, 3, 4, 5, 6, 7, 8, 9, 10, 11, 12};
        String[] doings = {"n = p.age;", "p.age = 1;", "p.lift();", "x.line(1);", "throw c;", "n = #r;", "p = r[0];", "r[0] = p;",
            "p = (new row[0])[0];", "s = (new puppet) as singer;", "n = 1 % 0;", "r = new row[-1];"};
        for (int kind : kinds) {
            for (int other : kinds) {
                checks.plays(in("try { " + doings[kind - 1] + " } lack (" + other + ") { say 7; "
                    + "}"), kind == other ? 0 : 1, kind == other ? 0 : kind,
                    kind == other ? "7" : "");
            }
        }
    }

    private static void always(Checks checks) {
        checks.sentence("Then always, in any case, how ever these were left (by their end, give, an UPSET, a CUE);");
        String called = in("say f();") + " scene f(): int { try { %s } lack (11) { %s } cue (d) { %s } always { say 8; } say 9; give 1; }";
        checks.plays(String.format(called, "", "", ""), 0, 0, "8 9 1");
        checks.plays(String.format(called, "give 2;", "", ""), 0, 0, "8 2");
        checks.plays(String.format(called, "say 1 / 0;", "say 3;", ""), 0, 0, "3 8 9 1");
        checks.plays(String.format(called, "say 1 / 0;", "give 4;", ""), 0, 0, "8 4");
        checks.plays(String.format(called, "say 1 / 0;", "say 1 / 0;", ""), 1, 11, "8");
        checks.plays(String.format(called, "say 1 / 0;", "throw new cue(5);", ""), 2, 5, "8");
        checks.plays(String.format(called, "throw new cue(6);", "", "say d.number;"), 0, 0, "6 8 9 1");
        checks.plays(String.format(called, "throw new cue(6);", "", "give d.number;"), 0, 0, "8 6");
        checks.plays(String.format(called, "throw new cue(6);", "", "throw d;"), 2, 6, "8");
        checks.plays(String.format(called, "throw new cue(6);", "", "say #r;"), 1, 6, "8");
        checks.plays(String.format(called, "say #r;", "", ""), 1, 6, "8");

        checks.sentence("if always is left by its end, it goes on as it would have without; else by that.");
        String left = in("try { say f(); } lack (11) { say 11; } lack (6) { say 6; } cue (e) { say e.number; }")
            + " scene f(): int { try { %s } always { say 8; %s } say 9; give 1; }";
        String[] ways = {"", "give 2;", "n = 1 / 0;", "throw new cue(77);"};
        String[] ends = {"9 1", "2", "11", "77"};
        String[] others = {"", "give 3;", "n = #r;", "throw new cue(88);"};
        String[] otherEnds = {"", "3", "6", "88"};
        for (int i = 0; i < ways.length; i++) {
            for (int j = 0; j < others.length; j++) {
                checks.plays(String.format(left, ways[i], others[j]), 0, 0, "8 " + (j == 0 ? ends[i] : otherEnds[j]));
            }
        }
        checks.plays(in("try { try { say 1; } always { n = n / 0; } } lack (11) { say 2; } say 3;"), 0, 0, "1 2 3");
        checks.plays(in("try { try { n = n / 0; } lack (11) { n = #r; } always { throw new cue(4); } } lack (6) { say 1; } cue (d) { say "
            + "d.number; } say 3;"),
            0, 0, "4 3");
        checks.plays(in("try { try { try { throw c; } always { say 1; } } always { say 2; n = #r; } } lack (5) { say 3; } lack (6) { say "
            + "4; }"), 0, 0, "1 2 4");
        checks.plays(in("while (n < 3) { n = n + 1; try { try { n = n / 0; } always { say n; } } lack (11) { say 5; } always { say 6; } "
            + "} say 7;"),
            0, 0, "1 5 6 2 5 6 3 5 6 7");
    }

    private static void fuelled(Checks checks, String text, int needed, String said) {
        PromptBook book = checks.sound(text);
        checks.due("play of " + text + " with " + (needed + 3), book.play(0, 0, 0, needed + 3), 0);
        checks.due("FUEL left", book.about(4), 3);
        checks.due("SAID", Checks.said(book), said);
        book = checks.sound(text);
        checks.due("play of " + text + " with " + needed, book.play(0, 0, 0, needed), 0);
        checks.due("FUEL left", book.about(4), 0);
        if (needed > 0) {
            book = checks.sound(text);
            checks.due("play of " + text + " with " + (needed - 1), book.play(0, 0, 0, needed - 1), 3);
            checks.due("FUEL left", book.about(4), 0);
            checks.due("kind", book.about(1), 0);
            checks.due("place", book.about(2), -1);
        }
    }

    private static void fuel(Checks checks) {
        checks.sentence("FUEL: one for each STATEMENT that begins, each time that the E of a while is worked, each call of a SCENE or "
            + "ACT (behind its parts, and behind 3 CALL).");
        fuelled(checks, in(""), 0, "");
        fuelled(checks, in("say 1;"), 1, "1");
        fuelled(checks, in("var v: int = 1; n = v; say n; throw2(); give;") + " scene throw2() { try { throw new cue(1); } cue (d) {} "
            + "}", 8, "1");
        fuelled(checks, in("if (1) { say 1; } else { say 2; }"), 2, "1");
        fuelled(checks, in("if (0) {} else if (0) {} else if (0) {} else {}"), 1, "");
        fuelled(checks, in("while (0) { say 1; }"), 2, "");
        fuelled(checks, in("while (n < 3) { n = n + 1; }"), 1 + 4 + 3, "");
        fuelled(checks, in("say f(f(1)) + f(2);") + " scene f(i: int): int { give i; }", 1 + 3 * 2, "3");
        fuelled(checks, in("p = new singer; p.q(); p = new walker; p.q();") + " act puppet q() {} act singer q() { say 1; }", 4 + 3, "1");
        fuelled(checks, in("l = new lamp; p = new puppet; p.lamp = l; say p.shine(1); say l.glow(2);"), 5, "1 3");
        fuelled(checks, in("try { say 1 / 0; } lack (11) { say 2; } always { say 3; }"), 4, "2 3");
        checks.sentence("FUEL, where none is left");
        PromptBook book = checks.sound(in("f(g(1));") + " scene f(i: int) { say i; } scene g(i: int): int { say i; give 5; }");
        String[] due = {"", "", "", "1", "1", "1", "1 5"};
        for (int i = 0; i < due.length; i++) {
            checks.due("play with " + i, book.play(0, 0, 0, i), i < 6 ? 3 : 0);
            checks.due("SAID with " + i, Checks.said(book), due[i]);
        }
        checks.due("a call of nobody takes none", checks.plays(in("p.q();") + " act puppet q() {}", 1, 3, "").about(4), 999);
        PromptBook parts = checks.sound(in("f(1 / 0);") + " scene f(i: int) {}");
        checks.due("its parts come ahead", parts.play(0, 0, 0, 1), 1);
        checks.sentence("ENDS, which no part sees, and in which nothing more is done:");
        PromptBook seen = checks.sound(in("try { n = 1; while (1) {} } lack (1, 2, 3, 4, 5, 6, 7, 8, 9, 10, 11, 12) { n = 2; } cue (d) { "
            + "n = 3; } always { n = 4; }"));
        checks.due("play", seen.play(0, 0, 0, 50), 3);
        checks.due("all that was done stays, and no more", seen.stage(0, 0), 1);
    }

    private static void behindEnds(Checks checks) {
        checks.sentence("ENDS, which no part sees, and in which nothing more is done:");
        PromptBook book = checks.sound(in("try { f(1); } lack (11) { say 1; } cue (d) { say 2; } always { say 3; }")
            + " scene f(i: int) { try { if (i) { f(0); } else { while (1) {} } } lack (11) { say 4; } always { say 5; } } scene upset() "
            + "{ n = g(); } "
            + "scene g(): int { n = h(); } scene h(): int { n = 1 / 0; } scene cued() { throw new cue(8); }");
        for (int i = 0; i < 3; i++) {
            checks.due("FUEL", book.play(0, 0, 0, 30), 3);
            checks.due("SAID", Checks.said(book), "");
            // No try of the play that came to its END is left for the next one.
            checks.due("an UPSET", book.play(2, 0, 0, 30), 1);
            checks.due("SAID", Checks.said(book), "");
            checks.due("FUEL", book.play(0, 0, 0, 30), 3);
            checks.due("a CUE", book.play(5, 0, 0, 30), 2);
            checks.due("SAID", Checks.said(book), "");
        }
        checks.sentence("if ( E ) BLOCK {else if ( E ) BLOCK} [else BLOCK]");
        PromptBook chain = checks.sound("scene main(k: int) { if (k == 0) { say 0; } else if (k == 1) { say 1; } else if (k == 2) { say "
            + "2; } else { say 3; } say 9; "
            + "if (k == 0) { say 5; } else if (k == 1) { say 6; } say 8; }");
        String[] due = {"0 9 5 8", "1 9 6 8", "2 9 8", "3 9 8"};
        for (int k = 0; k < due.length; k++) {
            checks.due("play of " + k, chain.play(0, k, 0, 30), 0);
            checks.due("SAID of " + k, Checks.said(chain), due[k]);
        }
    }

    private static void deep(Checks checks) {
        checks.sentence("DEEP: a SCENE or ACT is called within 16 of them (behind its FUEL);");
        String text = "stage n: int; stage p: puppet; scene main(k: int) { n = n + 1; if (k > 1) { main(k - 1); } } "
            + "act puppet down(k: int) { n = n + 1; if (k > 1) { me.down(k - 1); } } scene acts(k: int) { p = new puppet; p.down(k); }";
        PromptBook book = checks.sound(text);
        checks.due("16 SCENES", book.play(0, 16, 0, 100), 0);
        checks.due("n", book.stage(0, 0), 16);
        checks.due("17 SCENES", book.play(0, 17, 0, 100), 4);
        checks.due("n then", book.stage(0, 0), 32);
        checks.due("FUEL left", book.about(4), 100 - 16 * 3 - 16);
        checks.due("kind", book.about(1), 0);
        checks.due("place", book.about(2), -1);
        checks.due("the FUEL of the 17th is just there", book.play(0, 17, 0, 64), 4);
        checks.due("and is taken", book.about(4), 0);
        checks.due("it is not", book.play(0, 17, 0, 63), 3);
        checks.due("a SCENE and 15 ACTS", book.play(1, 15, 0, 100), 0);
        checks.due("a SCENE and 16 ACTS", book.play(1, 16, 0, 100), 4);
        checks.plays(in("try { f(); } lack (3) { say 1; } cue (d) { say 2; } always { say 3; }") + " scene f() { try { f(); } always { "
            + "say 4; } }", 4, 0, "");
        checks.plays(in("while (n < 40) { n = n + 1; f(); } say n;") + " scene f() { g(); } scene g() {}", 0, 0, "40");
    }

    private static void fullOfThings(Checks checks) {
        checks.sentence("FULL: more than 20,000 things (cues and rows, too) would have been made in all,");
        String text = "stage k: int; scene many(n: int) { k = 0; while (k < n) { k = k + 1; var v: prop = new prop; } } scene main() { "
            + "%s; k = 9; }";
        String[] last = {"var v: prop = new prop", "var v: cue = new cue(1)", "var v: row = new row[0]", "var v: row = new row[5]"};
        for (String each : last) {
            PromptBook book = checks.sound(String.format(text, each));
            for (int i = 0; i < 3; i++) {
                book.play(0, 6600, 0, 20000);
            }
            book.play(0, 199, 0, 20000);
            checks.due("things", book.about(6), 19999);
            checks.due("the 20,000th: " + each, book.play(1, 0, 0, 9), 0);
            checks.due("things", book.about(6), 20000);
            checks.due("a new book", Checks.take(book, String.format(text, each)), "2");
            checks.due("the 20,001st: " + each, book.play(1, 0, 0, 9), 5);
            checks.due("things still", book.about(6), 20000);
            checks.due("items", book.about(7), each.endsWith("[5]") ? 5 : 0);
            checks.due("FUEL left", book.about(4), 8);
            checks.due("what is behind is not done", book.stage(0, 0), 0);
        }
    }

    private static void fullOfItems(Checks checks) {
        checks.sentence("or more than 60,000 items of rows (behind SIZE),");
        PromptBook book = checks.sound("stage r: row; scene rows(n: int, m: int) { while (n > 0) { n = n - 1; r = new row[m]; } }");
        checks.due("60 rows of 999", book.play(0, 60, 999, 20000), 0);
        checks.due("one of 59", book.play(0, 1, 59, 20000), 0);
        checks.due("items", book.about(7), 59999);
        checks.due("SIZE comes ahead", book.play(0, 1, 1001, 20000), 1);
        checks.due("one item", book.play(0, 1, 1, 20000), 0);
        checks.due("items", book.about(7), 60000);
        checks.due("no item", book.play(0, 1, 0, 20000), 0);
        checks.due("SIZE comes ahead", book.play(0, 1, -1, 20000), 1);
        checks.due("its kind", book.about(1), 12);
        checks.due("one item more", book.play(0, 1, 1, 20000), 5);
        checks.due("items still", book.about(7), 60000);
        checks.due("things still", book.about(6), 63);
    }

    private static void fullOfUpsets(Checks checks) {
        checks.sentence("or an UPSET would be more than the 1,500th of all that ever came up.");
        String text = "stage k: int; scene many(n: int) { k = 0; while (k < n) { k = k + 1; try { k = k / 0; } lack (11) { } } } "
            + "scene one() { k = 5; try { k = 1 / 0; } lack (11) { say 4; } always { say 5; } } scene out() { k = 1 / 0; }";
        PromptBook book = checks.sound(text);
        checks.due("1,498 that are caught", book.play(0, 1498, 0, 20000), 0);
        checks.due("one that comes out", book.play(2, 0, 0, 20000), 1);
        checks.due("UPSETS", book.about(8), 1499);
        checks.due("a new book", Checks.take(book, text), "3");
        checks.due("the 1,500th", book.play(1, 0, 0, 9), 0);
        checks.due("it is caught", Checks.said(book), "4 5");
        checks.due("UPSETS", book.about(8), 1500);
        checks.due("the 1,501st", book.play(1, 0, 0, 9), 5);
        checks.due("nothing more is done", Checks.said(book), "");
        checks.due("what was done stays", book.stage(0, 0), 5);
        checks.due("UPSETS still", book.about(8), 1500);
        checks.due("kind", book.about(1), 0);
        checks.due("place", book.about(2), -1);
        checks.due("FUEL left", book.about(4), 6);
    }

    private static void behindFull(Checks checks) {
        checks.sentence("Behind a FULL each play() that is not NONE is FULL at once: nothing is done or SAID, all FUEL is left.");
        String text = "stage k: int; scene rows(n: int) { while (n > 0) { n = n - 1; var v: row = new row[1000]; } } scene one(a: int): "
            + "int { k = 7; say a; give a; } "
            + "scene none(a: row) {}";
        PromptBook book = checks.sound(text);
        checks.due("FULL", book.play(0, 61, 0, 20000), 5);
        for (int fuel = 0; fuel <= 20000; fuel += 10000) {
            checks.due("behind it", book.play(1, 3, 0, fuel), 5);
            int[] due = {5, 0, -1, 0, fuel, 0, 60, 60000, 0};
            for (int what = 0; what < due.length; what++) {
                checks.due("about(" + what + ")", book.about(what), due[what]);
            }
            checks.due("said(0)", Checks.saidOf(book, 0), Checks.THROWS_NO_SUCH);
            checks.due("nothing is done", book.stage(0, 0), 0);
        }
        checks.due("no such SCENE", book.play(3, 0, 0, 9), -1);
        checks.due("other parameters", book.play(2, 0, 0, 9), -1);
        checks.due("FUEL below 0", book.play(1, 0, 0, -1), -1);
        checks.due("FUEL too much", book.play(1, 0, 0, 20001), -1);
        checks.due("the latest is still told", book.about(4), 20000);
        checks.due("a new book", Checks.take(book, "scene other() {}"), "1");
        checks.due("is FULL, too", book.play(0, 0, 0, 2), 5);
        checks.due("all FUEL is left", book.about(4), 2);
    }
}
