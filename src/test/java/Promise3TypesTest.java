/** Promise 3 and 4: FAULTS 2 and 3, by names and types, and their order. */
public final class Promise3TypesTest {
    private static final String STAGES = "stage n: int; stage a: prop; stage l: lamp; stage p: puppet; stage s: singer; "
        + "stage w: walker; stage r: row; stage c: cue; stage x: speaker; stage m: mover; stage g: glower; ";

    public static void main(String[] args) {
        Checks checks = new Checks("promise 3, types");
        doubles(checks);
        likeness(checks);
        variables(checks);
        fields(checks);
        numbers(checks);
        fitting(checks);
        comparing(checks);
        calls(checks);
        giving(checks);
        order(checks);
        checks.end();
    }

    private static String in(String statements) {
        return STAGES + "scene main() {" + statements + "}";
    }

    private static void doubles(Checks checks) {
        checks.faulty(2, "stage a: int; stage b: int; stage ^a: row;");
        checks.faulty(2, "scene a() {} scene b() {} scene ^a(x: int) {}");
        checks.sound("stage a: int; scene a(a: int) {} act prop a() {} act lamp a() {} act puppet a() {}");
        checks.faulty(2, "act prop a() {} act prop ^a() {}");
        checks.faulty(2, "act singer a() {} act singer ^a() {}");
        checks.sound("act singer a() {} act puppet a() {} act walker a() {}");
        String[] wrong = {"prop weight", "prop owner", "prop inside", "prop heft", "prop to", "prop go", "lamp light",
            "lamp next", "lamp on", "lamp far", "lamp glow", "puppet age", "puppet held", "puppet master", "puppet word",
            "puppet lift", "puppet ask", "puppet shine", "puppet many", "puppet first", "puppet shout", "puppet pitch",
            "puppet line", "puppet glow", "puppet pace", "puppet next", "puppet go", "singer age", "singer held",
            "singer lift", "singer ask", "singer pitch", "singer line", "singer glow", "walker master", "walker shine",
            "walker pace", "walker next", "walker line", "walker go", "walker lift"};
        for (String each : wrong) {
            int gap = each.indexOf(' ') + 1;
            checks.faulty(2, "act " + each.substring(0, gap) + "^" + each.substring(gap) + "() {}");
        }
        checks.sound("act prop next() {} act lamp go() {} act singer pace() {} act singer next() {} act singer go() {} "
            + "act walker pitch() {} act walker glow() {} act prop age() {} act puppet weight() {} act puppet number() {}");
        checks.faulty(2, "scene a(b: int, c: row, ^b: int) {}");
        checks.faulty(2, "act prop a(b: int, ^b: int) {}");
        // Their order: STAGES, SCENES, ACTS, parameters.
        checks.faulty(2, "stage t: int; stage ^t: int; scene a(b: int, b: int) {} act prop to() {} scene a() {}");
        checks.faulty(2, "scene a(b: int, b: int) {} act prop to() {} scene ^a() {}");
        checks.faulty(2, "scene a(b: int, b: int) {} act prop ^to() {}");
        checks.faulty(2, "scene a(b: int, ^b: int) { say zz; } act puppet q(): int {} act singer q() {}");
        checks.faulty(2, "act prop to1() {} act prop ^heft() {} act prop to1() {}");
    }

    private static void likeness(Checks checks) {
        checks.sound("act puppet q(a: int, b: row): int {} act singer q(x: int, y: row): int {}");
        checks.faulty(3, "act puppet q(a: int): int {} act walker ^q(x: int) {}");
        checks.faulty(3, "act puppet q(a: int) {} act walker ^q(x: int): int {}");
        checks.faulty(3, "act walker ^q(x: int) {} act puppet q() {}");
        checks.faulty(3, "act singer ^q(x: singer) {} act puppet q(x: puppet) {}");
        checks.faulty(3, "act singer ^q(): singer {} act puppet q(): puppet {}");
        checks.sound("act singer q(): singer {} act walker q(a: int) {} act prop q(b: row) {}");
        checks.faulty(3, "scene a() { say zz; } act puppet q(): int {} act singer ^q() {}");
    }

    private static void variables(Checks checks) {
        checks.faulty(2, in("say ^zz;"));
        checks.faulty(2, in("^zz = 5;"));
        checks.faulty(2, in("say ^main;"));
        checks.faulty(2, in("^n();"));
        checks.faulty(2, in("^me.go(1);"));
        checks.faulty(2, in("say ^me == nobody;"));
        checks.faulty(2, in("if (1) { var b: int = 1; } say ^b;"));
        checks.faulty(2, in("say ^b; var b: int = 1;"));
        checks.faulty(2, in("var b: int = ^b;"));
        checks.faulty(2, in("var b: int = 1; var ^b: row = nobody;"));
        checks.faulty(2, in("var b: int = 1; if (1) { var ^b: int = 1; }"));
        checks.faulty(2, in("var b: int = 1; try {} cue (^b) {}"));
        checks.faulty(2, in("try {} cue (b) { var ^b: int = 1; }"));
        checks.faulty(2, in("try {} cue (b) {} say ^b.number;"));
        checks.faulty(2, in("try {} cue (b) {} always { throw ^b; }"));
        checks.faulty(2, "scene q(b: int) { var ^b: int = 1; }");
        checks.faulty(2, "scene q(b: int) {} scene r() { say ^b; }");
        checks.sound(in("var n: row = nobody; n = new row[1]; say #n;"));
        checks.sound(in("var n: int = n + 1; say n;"));
        checks.sound(in("if (1) { var b: int = 1; } else { var b: row = nobody; } var b: cue = nobody; b = nobody;"));
        checks.sound(in("try {} cue (b) { throw b; } cue (b) { say b.number; } var b: int = 2;"));
        checks.sound("act walker q(): int { me.pace = me.pace + me.line(2); give me.q() + me.next.age; }");
    }

    private static void fields(Checks checks) {
        String[] sound = {"n = a.weight", "p = a.owner", "a = a.inside", "n = l.light", "l = l.next", "p = l.on", "n = p.age",
            "a = p.held", "p = p.master", "l = p.lamp", "r = p.row", "c = p.word", "n = s.pitch", "n = s.age", "n = w.pace",
            "w = w.next", "l = w.lamp", "n = c.number", "p = c.about", "p = r[0]", "r[n] = s", "p.row[#r] = w",
            "n = a.heft(1) + a.to(p) + a.go(1)", "n = l.far() + l.glow(1)",
            "n = p.lift() + p.ask() + p.shine(1) + p.many() + p.shout()", "p = p.first()", "p = w.first().first()",
            "n = s.line(1) + s.glow(1) + s.ask() + s.lift()", "n = w.line(1) + w.go(1) + w.lift() + w.shine(2)",
            "n = x.line(1) + m.go(1) + g.glow(1)"};
        for (String each : sound) {
            checks.sound(in(each + ";"));
        }
        String[] wrong = {"a.^age", "a.^next", "l.^weight", "p.^pitch", "p.^pace", "p.^next", "s.^pace", "s.^next", "w.^pitch",
            "r.^many", "c.^age", "n.^age", "x.^age", "m.^pace", "g.^light", "nobody.^age", "5.^age", "a.^heft", "p.^lift",
            "a.^weight()", "p.^line(1)", "p.^go(1)", "p.^glow(1)", "s.^go(1)", "w.^glow(1)", "x.^go(1)", "m.^line(1)",
            "g.^shine(1)", "r.^first()", "c.^shout()", "n.^go(1)", "nobody.^lift()", "l.^go(1)", "r[0].^pitch", "p.^zz", "p.^zz()",
            "x.^lift()", "m.^heft(1)", "(n + 1).^age", "p.first().^pace", "(p as singer).^pace", "p.^row2", "p.^lamps"};
        for (String each : wrong) {
            checks.faulty(2, in("say " + each + ";"));
        }
        checks.faulty(2, in("p.^pitch = 1;"));
        checks.faulty(2, in("n.^age = 1;"));
    }

    private static void numbers(Checks checks) {
        String[] wrong = {"say ^a", "say ^nobody", "say ^r[0]", "say -^a", "say !^p", "say ^a + 1", "say 1 + ^a", "say ^a - 1",
            "say 1 - ^a", "say ^a * 1", "say 1 * ^a", "say ^a / 1", "say 1 / ^a", "say ^a % 1", "say 1 % ^a", "say ^a < 1",
            "say 1 < ^a", "say ^a <= 1", "say 1 >= ^a", "say ^a > 1", "say ^a & 1", "say 1 & ^a", "say ^a | 1", "say 1 | ^a",
            "say ^a + a", "say 1 + -^p", "say 1 + ^(p)", "p = r[^p]", "p = ^a[0]", "p = ^nobody + 1", "p = ^(a)[0]",
            "p = ^p.held[0]", "n = #^n", "n = #^p.held", "n = #^(p)", "c = new cue(^p)", "r = new row[^nobody]",
            "throw ^n", "throw ^p.held", "throw ^r", "n = ^n as prop", "n = ^nobody is prop", "n = ^r is prop", "n = ^c as prop",
            "n = ^(n) is speaker", "n = ^p.age as prop", "n = ^nobody as puppet", "r[^p] = p", "^p[0] = p", "p.age = ^p",
            "n = 1 + 2 * ^r", "n = #r & ^p", "n = --^p"};
        for (String each : wrong) {
            checks.faulty(3, in(each + ";"));
        }
        checks.faulty(3, in("if (^p) {}"));
        checks.faulty(3, in("if (1) {} else if (^nobody) {}"));
        checks.faulty(3, in("while (^r) {}"));
        checks.faulty(3, in("try {} lack (^0) {}"));
        checks.faulty(3, in("try {} lack (12, ^13, 0) {}"));
        checks.sound(in("n = #nobody; p = nobody[0]; throw nobody;"));
        checks.sound(in("n = p is singer; n = m is lamp; p = x as singer; m = a as walker;"));
    }

    private static void fitting(Checks checks) {
        String[] sound = {"p = s", "p = w", "x = s", "x = w", "m = w", "m = a", "g = l", "g = s", "a = nobody", "r = nobody",
            "c = nobody", "x = nobody", "p = nobody", "w = p as walker", "x = x", "p.word = nobody", "r[0] = s", "a.owner = w",
            "w.next = p as walker", "p = a as puppet"};
        for (String each : sound) {
            checks.sound(in(each + ";"));
        }
        String[] wrong = {"n = ^p", "n = ^nobody", "p = ^n", "s = ^p", "w = ^p", "s = ^w", "x = ^p", "m = ^s", "m = ^p", "g = ^w",
            "g = ^p", "s = ^x", "p = ^x", "a = ^m", "l = ^g", "r = ^p", "p = ^r", "c = ^5", "x = ^m", "r[0] = ^a", "r[0] = ^x",
            "a.owner = ^x", "w.next = ^p", "s = ^s as puppet", "a = ^a is prop", "p.lamp = ^g"};
        for (String each : wrong) {
            checks.faulty(3, in(each + ";"));
        }
        checks.faulty(3, in("var q: singer = ^p;"));
        checks.faulty(3, in("var q: int = ^nobody;"));
        checks.sound(in("var q: glower = new lamp; var z: puppet = new singer; q = s;"));
    }

    private static void comparing(Checks checks) {
        String[] sound = {"n == 1", "a == a", "a != nobody", "nobody == a", "nobody == nobody", "p == s", "w == p", "x == s",
            "w != x", "m == a", "g == l", "r == nobody", "c != c", "r == r", "nobody != x"};
        for (String each : sound) {
            checks.sound(in("say " + each + ";"));
        }
        String[] wrong = {"n == ^nobody", "nobody == ^n", "a == ^p", "s == ^w", "p == ^x", "x != ^m", "r == ^c", "1 != ^p", "p != ^1",
            "l == ^m", "w != ^g", "(a) == ^(p)", "a == ^p.master"};
        for (String each : wrong) {
            checks.faulty(3, in("say " + each + ";"));
        }
    }

    private static void calls(Checks checks) {
        String more = " scene two(i: int, q: puppet): int { give 1; } scene none() { } act puppet act2(i: int): cue { } "
            + "act singer own(): int { give 1; } act prop quiet() { }";
        String[] sound = {"n = two(1, s)", "none()", "two(1, nobody)", "c = p.act2(2)", "c = w.act2(n)", "n = s.own()", "a.quiet()",
            "a.inside.quiet()", "(a).quiet()", "p.lift()", "n = two(two(1, p), p.first())", "throw p.act2(1)"};
        for (String each : sound) {
            checks.sound(in(each + ";") + more);
        }
        String[] wrong = {"^two(1)", "^two()", "^two(1, p, 1)", "^two(p)", "two(^p, p)", "two(1, ^1)", "two(^p, 1)", "n = ^none()",
            "^none(1)", "p = p.^first(1)", "n = p.^lift(1)", "n = a.^heft()", "n = a.^heft(1, 2)", "n = a.heft(^p)",
            "n = a.to(^1)", "n = a.to(^a)", "n = a.to(^x)", "n = g.glow(^nobody)", "n = m.^go()", "c = p.^act2()", "c = p.act2(^p)",
            "say a.^quiet()", "a.^quiet().x()", "n = ^p.act2(1)", "n = ^two(1, p) as prop", "say 1 + ^none()", "^none().x()",
            "n = two(^none(), p)", "throw ^two(1, p)", "n = ^p.first()", "n = two(1, p.^lift(2))"};
        for (String each : wrong) {
            checks.faulty(3, in(each + ";") + more);
        }
        checks.faulty(2, in("^none2();") + more);
        checks.faulty(2, in("n = p.^own();") + more);
        checks.faulty(2, in("n = w.^own();") + more);
        checks.faulty(2, in("n = x.^act2(1);") + more);
        checks.faulty(2, in("n = ^quiet();") + more);
        // The call's NAME, its parts by themselves, how many, their types, what it gives.
        checks.faulty(2, in("say ^zz(yy);") + more);
        checks.faulty(2, in("say p.^zz(yy);") + more);
        checks.faulty(2, in("two(1, 2, ^yy);") + more);
        checks.faulty(3, in("two(1, 2, 1 + ^p);") + more);
        checks.faulty(3, in("say ^two(p, 2, 1);") + more);
        checks.faulty(3, in("say a.^quiet(p);") + more);
    }

    private static void giving(Checks checks) {
        checks.faulty(3, "scene q(): int { ^give; }");
        checks.faulty(3, "scene q() { ^give 1; }");
        checks.faulty(3, "scene q() { ^give nobody; }");
        checks.faulty(2, "scene q() { give ^zz; }");
        checks.faulty(3, "scene q(): int { give ^nobody; }");
        checks.faulty(3, "scene q(): singer { give ^new puppet; }");
        checks.faulty(3, "act singer q(): prop { give ^me; }");
        checks.sound("act singer q(): puppet { give me; } scene t(): row { give nobody; } scene u(): int { } scene v() { give; }");
    }

    private static void order(Checks checks) {
        checks.faulty(2, in("say ^zz; say yy;"));
        checks.faulty(2, in("say n;") + " act prop q() { say ^zz; } scene t() { say yy; }");
        checks.faulty(2, in("say n + ^zz;"));
        checks.faulty(3, in("say ^p + zz;"));
        checks.faulty(3, in("say ^p & zz;"));
        checks.faulty(3, in("say ^p + n + zz;"));
        checks.faulty(2, in("say n & ^zz;"));
        checks.faulty(3, in("p = ^p[zz];"));
        checks.faulty(3, in("p = ^p[p];"));
        checks.faulty(3, in("^p[0] = zz;"));
        checks.faulty(2, in("p.^zz = yy;"));
        checks.faulty(2, in("n = n + ^yy;"));
        checks.faulty(2, in("var q: int = 1; var ^q: int = zz;"));
        checks.faulty(2, in("try { say ^zz; } lack (0) {}"));
        checks.faulty(3, in("try { } lack (^0) { say zz; }"));
        checks.faulty(3, in("if (^p) { say zz; }"));
        checks.faulty(1, in("say zz; ^;"));
        checks.faulty(4, in("say zz;") + " ^abcdefghijklm");
    }
}
