/** Promise 5: which plays there are, how values are worked, what upsets, catches and cues do. */
public final class Promise5PlayTest {
    public static void main(String[] args) {
        Checks checks = new Checks("promise 5, play");
        refused(checks);
        numbers(checks);
        things(checks);
        ownCalls(checks);
        roles(checks);
        acts(checks);
        orderOfWork(checks);
        checks.end();
    }

    private static void refused(Checks checks) {
        PromptBook book = checks.sound("stage t: int; scene a() { t = t + 1; } scene b(x: int) { say x; } "
            + "scene c(x: int, y: int): int { give x - y; } scene d(x: int, y: int, z: int) {} scene e(x: row) {} "
            + "act prop f() {} scene g(x: int, y: puppet) {} scene h() {}");
        checks.due("SCENE -1", book.play(-1, 0, 0, 9), -1);
        checks.due("three parameters", book.play(3, 0, 0, 9), -1);
        checks.due("a row for a parameter", book.play(4, 0, 0, 9), -1);
        checks.due("the second no int", book.play(5, 0, 0, 9), -1);
        checks.due("ACTS are no SCENES", book.play(6, 0, 0, 9), 0);
        checks.due("no such SCENE", book.play(7, 0, 0, 9), -1);
        checks.due("FUEL -1", book.play(0, 0, 0, -1), -1);
        checks.due("FUEL 20,001", book.play(0, 0, 0, 20001), -1);
        checks.due("nothing is done", book.stage(0, 0), 0);
        checks.due("FUEL 20,000", book.play(0, 5, 6, 20000), 0);
        checks.due("done once", book.stage(0, 0), 1);
        checks.due("one parameter", book.play(1, 41, 6, 5), 0);
        checks.due("it is a", Checks.said(book), "41");
        checks.due("two parameters", book.play(2, 41, 6, 5), 0);
        checks.due("a and b", book.about(3), 35);
        checks.due("no FUEL is needed for nothing", book.play(6, 0, 0, 0), 0);
        checks.due("but for a STATEMENT", book.play(0, 0, 0, 0), 3);
        checks.due("which is not done", book.stage(0, 0), 1);
    }

    private static void says(Checks checks, String value, int due) {
        checks.plays("scene main() { say " + value + "; }", 0, 0, Integer.toString(due));
    }

    private static void numbers(Checks checks) {
        says(checks, "1 + 2 * 3", 7);
        says(checks, "(1 + 2) * 3", 9);
        says(checks, "10 - 3 - 2", 5);
        says(checks, "7 / 2", 3);
        says(checks, "-7 / 2", -3);
        says(checks, "-7 % 3", -1);
        says(checks, "7 % -3", 1);
        says(checks, "100 / 10 / 5", 2);
        says(checks, "2 * 3 % 4", 2);
        says(checks, "-2 * -3", 6);
        says(checks, "999999999 * 999999999", 999999999 * 999999999);
        says(checks, "999999999 + 999999999 + 999999999", 999999999 * 3);
        says(checks, "(-536870912 * 4) / -1", Integer.MIN_VALUE);
        says(checks, "(-536870912 * 4) % -1", 0);
        says(checks, "-(-536870912 * 4)", Integer.MIN_VALUE);
        says(checks, "!0 + !1 + !-5", 1);
        says(checks, "!!7", 1);
        says(checks, "1 < 2", 1);
        says(checks, "2 < 2", 0);
        says(checks, "2 <= 2", 1);
        says(checks, "2 > 2", 0);
        says(checks, "2 >= 2", 1);
        says(checks, "3 == 3", 1);
        says(checks, "3 != 3", 0);
        says(checks, "3 & 4", 1);
        says(checks, "0 & 1 / 0", 0);
        says(checks, "5 & 0", 0);
        says(checks, "7 | 1 / 0", 1);
        says(checks, "0 | 9", 1);
        says(checks, "0 | 0", 0);
        says(checks, "1 | 0 & 0", 1);
        says(checks, "0 & 0 | 1", 1);
        says(checks, "2 == 2 & 3 < 4 | 0", 1);
        says(checks, "1 + (0 | 5) + (3 & 3) * 10", 12);
        says(checks, "(1 | 2) + 5 * (0 & 1)", 1);
        checks.upsets("scene main() { say 1 ^/ 0; }", 1, 11);
        checks.upsets("scene main() { say 1 ^% (1 - 1); }", 1, 11);
        checks.upsets("scene main() { say 1 & 2 / (3 ^/ 0); }", 1, 11);
    }

    private static void things(Checks checks) {
        String head = "stage p: puppet; stage r: row; stage c: cue; stage a: prop; stage w: walker; ";
        checks.plays(head + "scene main() { p = new singer; say p is singer; say p is walker; say p is puppet; say p is speaker; "
            + "say p is mover; say p is glower; say p.master is puppet; say p == p; say p == new singer; "
            + "say (p as singer) == p; say p.master as walker == nobody; }", 0, 0, "1 0 1 1 0 1 0 1 0 1 1");
        checks.plays(head + "scene main() { r = new row[3]; say #r; say r[2] == nobody; r[1] = new walker; say r[1] is mover; "
            + "r = new row[0]; say #r; c = new cue(5 + 1); say c.number; say c.about == nobody; r = new row[1000]; say #r; }",
            0, 0, "3 1 1 0 6 1 1000");
        checks.plays(head + "scene main() { w = new walker; say w.pace; say w.age; say w.next == nobody; w.next = w; "
            + "w.next.next.pace = 4; say w.pace; w.age = 9; say w.next.age; }", 0, 0, "0 0 1 4 9");
        checks.upsets(head + "scene main() { say p.^age; }", 1, 1);
        checks.upsets(head + "scene main() { p = new puppet; p = p.master.^master; }", 1, 1);
        checks.upsets(head + "scene main() { p.^age = 1; }", 1, 2);
        checks.upsets(head + "scene main() { p = new puppet; p.held.^owner = p; }", 1, 2);
        checks.upsets(head + "scene main() { p.^lift(); }", 1, 3);
        checks.upsets(head + "scene main() { ^throw c; }", 1, 5);
        checks.upsets(head + "scene main() { ^throw nobody; }", 1, 5);
        checks.upsets(head + "scene main() { say 1 + ^#r; }", 1, 6);
        checks.upsets(head + "scene main() { say ^#nobody; }", 1, 6);
        checks.upsets(head + "scene main() { p = r^[0]; }", 1, 7);
        checks.upsets(head + "scene main() { p = nobody^[0]; }", 1, 7);
        checks.upsets(head + "scene main() { r^[0] = p; }", 1, 8);
        checks.upsets(head + "scene main() { r = new row[2]; p = r^[2]; }", 1, 9);
        checks.upsets(head + "scene main() { r = new row[2]; p = r^[-1]; }", 1, 9);
        checks.upsets(head + "scene main() { r = new row[2]; r^[2] = p; }", 1, 9);
        checks.upsets(head + "scene main() { r = new row[0]; r^[0] = p; }", 1, 9);
        checks.upsets(head + "scene main() { p = new singer; w = p ^as walker; }", 1, 10);
        checks.upsets(head + "scene main() { a = new prop; p = a ^as puppet; }", 1, 10);
        checks.upsets(head + "scene main() { a = new prop; if ((a ^as speaker) == w) {} }", 1, 10);
        checks.upsets(head + "scene main() { r = ^new row[-1]; }", 1, 12);
        checks.upsets(head + "scene main() { r = ^new row[1001]; }", 1, 12);
        checks.upsets(head + "scene main() { c = new cue(8); ^throw c; }", 2, 8);
        checks.upsets(head + "scene main() { c = new cue(8); other(); } scene other() { c.number = -3; ^throw c; }", 2, -3);
    }

    private static void ownCalls(Checks checks) {
        String head = "stage p: puppet; stage s: singer; stage w: walker; stage a: prop; stage l: lamp; "
            + "scene main() { p = new puppet; s = new singer; w = new walker; a = new prop; l = new lamp; "
            + "p.age = 1; s.age = 2; w.age = 3; a.weight = 40; l.light = 500; s.pitch = 6; w.pace = 7; ";
        checks.plays(head + "a.inside = new prop; a.inside.weight = 3; say a.heft(2); say a.heft(-1); }", 0, 0, "83 -37");
        checks.upsets(head + "say a.^heft(2); }", 1, 1);
        checks.plays(head + "say a.to(w); say w.held == a; say a.owner == w; say a.to(p); say w.held == a; say a.owner == p; }",
            0, 0, "3 1 1 1 1 1");
        checks.upsets(head + "a.owner = s; say a.^to(nobody); }", 1, 2);
        checks.plays(head + "say a.go(2); say a.weight; say a.go(-50); }", 0, 0, "42 42 -8");
        checks.plays(head + "l.next = new lamp; l.next.light = 4; say l.far(); l.next = l; say l.far(); }", 0, 0, "504 1000");
        checks.upsets(head + "say l.^far(); }", 1, 1);
        checks.plays(head + "say l.glow(1); say l.light; }", 0, 0, "501 501");
        checks.plays(head + "p.held = a; s.held = a; w.held = a; say p.lift(); say s.lift(); say w.lift(); }", 0, 0, "41 42 50");
        checks.upsets(head + "say w.^lift(); }", 1, 1);
        checks.plays(head + "w.held = a; p.master = w; s.master = w; w.master = w; say p.ask(); say s.ask(); say w.ask(); "
            + "p.held = a; s.master = p; say s.ask(); s.held = a; p.master = s; say p.ask(); p = s; say p.ask(); }",
            0, 0, "50 56 50 47 42 47");
        checks.upsets(head + "say s.^ask(); }", 1, 3);
        checks.upsets(head + "s.master = p; say s.^ask(); }", 1, 1);
        checks.plays(head + "p.lamp = l; s.lamp = l; say p.shine(1); say s.shine(1); say s.glow(1); say l.light; }",
            0, 0, "501 502 509 503");
        checks.upsets(head + "say p.^shine(1); }", 1, 4);
        checks.upsets(head + "say s.^glow(1); }", 1, 4);
        checks.plays(head + "w.row = new row[4]; w.row[0] = s; say w.many(); say w.first() == s; w.row[0] = nobody; "
            + "say w.first() == nobody; }", 0, 0, "4 1 1");
        checks.upsets(head + "say p.^many(); }", 1, 6);
        checks.upsets(head + "p = p.^first(); }", 1, 7);
        checks.upsets(head + "p.row = new row[0]; p = p.^first(); }", 1, 9);
        checks.upsets(head + "p.word = new cue(77); p.^shout(); }", 2, 77);
        checks.upsets(head + "p.^shout(); }", 1, 5);
        checks.plays(head + "say s.line(10); say w.line(10); say w.go(3); say w.pace; }", 0, 0, "16 70 10 10");
    }

    private static void roles(Checks checks) {
        String head = "stage x: speaker; stage m: mover; stage g: glower; stage s: singer; ";
        checks.plays(head + "scene main() { s = new singer; s.pitch = 4; x = s; say x.line(2); var w: walker = new walker; "
            + "w.pace = 5; x = w; say x.line(2); m = w; say m.go(1); m = new prop; say m.go(9); g = new lamp; say g.glow(3); "
            + "s.lamp = g as lamp; g = s; say g.glow(1); }", 0, 0, "6 10 6 9 3 8");
        checks.upsets(head + "scene main() { say x.^line(1); }", 1, 4);
        checks.upsets(head + "scene main() { say m.^go(1); }", 1, 4);
        checks.upsets(head + "scene main() { say g.^glow(1); }", 1, 4);
        checks.upsets(head + "scene main() { g = new singer; say g.^glow(1); }", 1, 4);
        checks.upsets(head + "scene main() { say (nobody2() as speaker).^line(1); } scene nobody2(): puppet { }", 1, 4);
    }

    private static void acts(Checks checks) {
        String head = "act puppet who(n: int): int { give n + me.age; } act singer who(k: int): int { give k * 100 + me.pitch; } "
            + "act puppet base(): int { give me.who(1); } act prop self(): prop { give me; } act puppet quiet() { say 5; } "
            + "act walker own(a: int, b: int, c: int, d: int, e: int): int { give a + b * 10 + c * 100 + d * 1000 + e * 10000; } ";
        checks.plays(head + "scene main() { var p: puppet = new singer; say p.who(2); say p.base(); p = new walker; p.age = 3; "
            + "say p.who(2); say p.base(); p = new puppet; say p.who(2); p.quiet(); say (p.master == nobody) + p.who(p.who(4)); }",
            0, 0, "200 100 5 4 2 5 5");
        checks.plays(head + "scene main() { var a: prop = new prop; say a.self() == a; say a.self().self().weight; "
            + "say (new walker).own(1, 2, 3, 4, 5); say none() == nobody; say zero(); } scene none(): puppet { } "
            + "scene zero(): int { if (0) { give 5; } }", 0, 0, "1 0 54321 1 0");
        checks.upsets(head + "scene main() { var p: puppet = nobody; say p.^who(1); }", 1, 3);
        checks.upsets(head + "scene main() { var p: puppet = nobody; p.^quiet(); }", 1, 3);
        checks.plays(head + "scene main() { say fac(10); } scene fac(n: int): int { if (n < 2) { give 1; } give n * fac(n - 1); }",
            0, 0, "3628800");
    }

    private static void orderOfWork(Checks checks) {
        String head = "stage r: row; stage p: puppet; stage n: int; scene t(k: int): int { say k; give k; } "
            + "scene pick(k: int): puppet { say k; give p; } scene rows(k: int): row { say k; give r; } ";
        checks.due("SCENES", Checks.take(new PromptBook(), head), "3");
        String[][] runs = {
            {"say t(1) + t(2) * t(3) - t(4);", "1 2 3 4 3", "0"},
            {"rows(1)[t(0)] = pick(3);", "1 0 3", "8"},
            {"r = new row[1]; rows(1)[t(0)] = pick(3);", "1 0 3", "0"},
            {"r = new row[1]; rows(1)[t(1)] = pick(3);", "1 1 3", "9"},
            {"pick(1).age = t(2);", "1 2", "2"},
            {"say pick(1).shine(t(2));", "1 2", "3"},
            {"say rows(1)[t(2)] == pick(3);", "1 2", "7"},
            {"r = new row[1]; r[0] = new puppet; r[0].age = 5; n = 0; r[n].age = up(); say r[0].age; say n;", "1 1", "0"},
            {"p = new puppet; p.age = drop(); say p == nobody;", "1", "0"},
            {"say t(0) & t(1); say t(1) & t(0); say t(2) | t(3); say t(0) | t(0);", "0 0 1 0 0 2 1 0 0 0", "0"},
            {"say t(1) == t(2); say t(1) < t(2);", "1 2 0 1 2 1", "0"},
        };
        for (String[] run : runs) {
            PromptBook book = checks.sound("stage r: row; stage p: puppet; stage n: int; scene main() { " + run[0] + "} "
                + head.substring(head.indexOf("scene")) + "scene up(): int { n = 1; give 1; } scene drop(): int { p = nobody; give 1; }");
            int upset = Integer.parseInt(run[2]);
            checks.due("play of " + run[0], book.play(0, 0, 0, 1000), upset == 0 ? 0 : 1);
            checks.due("about(1) of " + run[0], book.about(1), upset);
            checks.due("SAID of " + run[0], Checks.said(book), run[1]);
        }
    }
}
