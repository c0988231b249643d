/** Terms 2 of the document, sentence by sentence: the edges of names, types, and FAULTS 2 and 3. */
public final class EdgesTypesTest {
    private static final String STAGES = "stage n: int; stage a: prop; stage l: lamp; stage p: puppet; stage s: singer; "
        + "stage w: walker; stage r: row; stage c: cue; stage x: speaker; stage m: mover; stage g: glower; ";
    private static final String TYPES = "int prop lamp puppet singer walker row cue speaker mover glower nobody";
    // For each TYPE that must be met, in the order above, which of them fit it.
    private static final String[] FITTING = {"int", "prop nobody", "lamp nobody", "puppet singer walker nobody", "singer nobody",
        "walker nobody", "row nobody", "cue nobody", "speaker singer walker nobody", "mover walker prop nobody",
        "glower lamp singer nobody", "nobody"};

    public static void main(String[] args) {
        Checks checks = new Checks("edges of types");
        fits(checks);
        items(checks);
        locals(checks);
        wrongNames(checks);
        wrongTypes(checks);
        comparing(checks);
        giving(checks);
        calls(checks);
        order(checks);
        lacks(checks);
        fieldsAndCalls(checks);
        asAndIs(checks);
        checks.end();
    }

    private static String in(String statements) {
        return STAGES + "scene main() {" + statements + "}";
    }

    private static String valueOf(String type) {
        switch (type) {
            case "int": return "n";
            case "prop": return "a";
            case "lamp": return "l";
            case "puppet": return "p";
            case "singer": return "s";
            case "walker": return "w";
            case "row": return "r";
            case "cue": return "c";
            case "speaker": return "x";
            case "mover": return "m";
            case "glower": return "g";
            default: return "nobody";
        }
    }

    private static boolean isIn(String list, String word) {
        return (" " + list + " ").contains(" " + word + " ");
    }

    /** The text around ^ is sound if the value may stand there, else it has FAULT 3 at the mark. */
    private static void either(Checks checks, boolean sound, String marked) {
        if (sound) {
            checks.sound(marked.replace("^", ""));
        } else {
            checks.faulty(3, marked);
        }
    }

    private static void fits(Checks checks) {
        checks.sentence("A type FITS itself, singer and walker fit puppet, a KIND fits its ROLES; nobody fits all but int.");
        String[] types = TYPES.split(" ");
        for (int i = 0; i < types.length - 1; i++) {
            for (String given : types) {
                boolean fit = isIn(FITTING[i], given);
                either(checks, fit, in(valueOf(types[i]) + " = ^" + valueOf(given) + ";"));
                either(checks, fit, in("var v: " + types[i] + " = ^" + valueOf(given) + ";"));
                either(checks, fit, in("f(^" + valueOf(given) + ");") + " scene f(v: " + types[i] + ") {}");
                either(checks, fit, STAGES + "scene f(): " + types[i] + " { give ^" + valueOf(given) + "; }");
            }
        }
    }

    private static void items(Checks checks) {
        checks.sentence("the items of a row are of type puppet.");
        for (String given : TYPES.split(" ")) {
            either(checks, isIn(FITTING[3], given), in("r[0] = ^" + valueOf(given) + ";"));
        }
        checks.faulty(3, in("s = ^r[0];"));
        checks.faulty(2, in("say r[0].^pitch;"));
        checks.sound(in("say r[0].lift() + (r[0] as singer).pitch;"));
    }

    private static void locals(Checks checks) {
        checks.sentence("the innermost local of that NAME that is told ahead of it in this BLOCK or one around (of cue ( ): in its "
            + "BLOCK), else the STAGE.");
        checks.plays("stage v: int; scene main() { v = 1; if (1) { var v: int = 2; say v; v = 3; say v; } say v; "
            + "while (v == 1) { say v; var v: int = 4; say v; v = 5; other(); } say v; } scene other() { v = 9; }", 0, 0, "2 3 1 1 4 9");
        checks.plays("stage v: int; scene main(v: int) { say v; v = 6; say v; other(); } scene other() { say v; }", 0, 0, "0 6 0");
        checks.plays("stage v: int; scene main() { try { throw new cue(3); } cue (v) { say v.number; } say v; }", 0, 0, "3 0");
        checks.faulty(2, in("if (1) { var v: int = 1; } say ^v;"));
        checks.faulty(2, in("if (1) { var v: int = 1; } else { say ^v; }"));
        checks.faulty(2, in("try { var v: int = 1; } always { say ^v; }"));
        checks.faulty(2, in("try { say ^v.number; } cue (v) {}"));
        checks.faulty(2, in("try {} cue (v) {} lack (1) { say ^v.number; }"));
        checks.faulty(2, in("try {} cue (v) {} always { say ^v.number; }"));
        checks.faulty(2, in("try {} cue (v) {} say ^v.number;"));
        checks.faulty(2, in("say ^v; var v: int = 1;"));

        checks.sentence("A new local (told behind its E) has a NAME that no local in sight has.");
        checks.faulty(2, in("var v: int = ^v;"));
        checks.plays("stage v: int; scene main() { v = 4; var v: int = v + 1; say v; }", 0, 0, "5");
        checks.faulty(2, in("var v: int = 1; var ^v: int = 2;"));
        checks.faulty(2, in("var v: int = 1; if (1) { if (1) { var ^v: int = 2; } }"));
        checks.faulty(2, "scene f(v: int) { var ^v: int = 2; }");
        checks.faulty(2, "act prop f(v: int) { try {} cue (^v) {} }");
        checks.faulty(2, in("try {} cue (v) { try {} cue (^v) {} }"));
        checks.faulty(2, in("try {} cue (v) { var ^v: int = 1; }"));
        checks.sound(in("if (1) { var v: int = 1; } var v: row = nobody; var n: cue = nobody; n = c;"));
        checks.sound(in("if (1) { var v: int = 1; } else if (2) { var v: int = 2; } else { var v: int = 3; }"));
        checks.sound(in("try { var v: int = 1; } lack (1) { var v: int = 1; } cue (v) {} cue (v) {} always { var v: int = 1; }"));
    }

    private static void wrongNames(Checks checks) {
        checks.sentence("FAULT 2, at the NAME: one that is none, or was in sight; a SCENE that is none; a field or call that its type "
            + "has not (at the NAME behind the .); me in a SCENE.");
        checks.faulty(2, in("say ^zz;"));
        checks.faulty(2, in("^zz = 1;"));
        checks.faulty(2, in("say ^main;"));
        checks.faulty(2, in("^zz();"));
        checks.faulty(2, in("say ^n();"));
        checks.faulty(2, in("say ^lift();"));
        checks.faulty(2, in("say ^me.age;"));
        checks.faulty(2, in("^me.q();") + " act prop q() {}");
        checks.sound("act prop q(): prop { give me; }");

        checks.sentence("(The ACTS of a KIND are calls of it, of puppet also of singer and walker.)");
        String acts = " act puppet q() {} act singer sq() {} act prop aq() {}";
        checks.sound(in("p.q(); s.q(); w.q(); s.sq(); a.aq();") + acts);
        for (String wrong : "p.^sq w.^sq a.^q l.^aq x.^q g.^sq r.^q c.^q n.^q".split(" ")) {
            checks.faulty(2, in(wrong + "();") + acts);
        }

        checks.sentence("A field or call of an int, of nobody: FAULT 2.");
        checks.faulty(2, in("say n.^age;"));
        checks.faulty(2, in("say 5.^go(1);"));
        checks.faulty(2, in("say nobody.^age;"));
        checks.faulty(2, in("say nobody.^lift();"));
        checks.faulty(2, in("say (nobody).^lift();"));
        checks.faulty(2, in("(nobody).^age = 1;"));
        checks.faulty(2, in("say (#r).^age;"));
    }

    private static void must(Checks checks, String allowed, String before, String behind) {
        for (String given : TYPES.split(" ")) {
            either(checks, isIn(allowed, given), in(before + "^" + valueOf(given) + behind));
        }
    }

    private static void wrongTypes(Checks checks) {
        checks.sentence("int for say, conditions, items' places, new cue, new row, - ! * / % + - < <= > >= & |;");
        must(checks, "int", "say ", ";");
        must(checks, "int", "if (", ") {}");
        must(checks, "int", "if (1) {} else if (", ") {}");
        must(checks, "int", "while (", ") {}");
        must(checks, "int", "p = r[", "];");
        must(checks, "int", "r[", "] = p;");
        must(checks, "int", "c = new cue(", ");");
        must(checks, "int", "r = new row[", "];");
        must(checks, "int", "say -", ";");
        must(checks, "int", "say !", ";");
        for (String sign : "* / % + - < <= > >= & |".split(" ")) {
            must(checks, "int", "say 1 " + sign + " ", ";");
            must(checks, "int", "say ", " " + sign + " 1;");
        }
        checks.sentence("a KIND or ROLE (not nobody) ahead of as and is;");
        must(checks, "prop lamp puppet singer walker speaker mover glower", "a = ", " as prop;");
        must(checks, "prop lamp puppet singer walker speaker mover glower", "n = ", " is glower;");
        checks.sentence("at the first token of the E, A, C, .. or PATH that has another type than it must (of a PATH's parts: of the "
            + "BASE)");
        checks.faulty(3, in("say ^(p);"));
        checks.faulty(3, in("say ^p.master.master;"));
        checks.faulty(3, in("say ^new prop;"));
        checks.faulty(3, in("say ^new cue(1).about;"));
        checks.faulty(3, in("say ^f(1).first();") + " scene f(i: int): puppet {}");
        checks.faulty(3, in("say ^p as singer;"));
        checks.faulty(3, in("say -^p.first();"));
        checks.faulty(3, in("say 1 + 2 * ^(p) - 3;"));
        checks.faulty(3, in("p = ^1 + 2 * 3;"));
        checks.faulty(3, in("p = ^-1;"));
        checks.faulty(3, in("p = ^#r;"));
        checks.faulty(3, in("p = ^n == n;"));
        checks.faulty(3, in("p = ^n < n;"));
        checks.faulty(3, in("p = ^n & n;"));
        checks.faulty(3, in("p = ^n | n;"));
        checks.faulty(3, in("p = ^p is singer;"));
        checks.faulty(3, in("r = ^p.q(1);") + " act puppet q(i: int): int {}");
        checks.faulty(3, in("say 1 + ^p.q(1, 2);") + " act puppet q(i: int, j: int): row {}");
        checks.faulty(3, in("say f(1, ^p.first());") + " scene f(i: int, j: int): int {}");
        checks.faulty(3, in("say f(1, ^f(2, 3));") + " scene f(i: int, j: int): row {}");
        checks.faulty(3, in("p = ^p.held[0];"));
        checks.faulty(3, in("say #^p.held;"));
        checks.faulty(3, in("^p.held[0] = p;"));
        checks.faulty(3, in("r = ^p.first().age as puppet;"));
    }

    private static void comparing(Checks checks) {
        checks.sentence("for == and != both int, or none int and one fits the other: at the second one.");
        String[] types = TYPES.split(" ");
        for (int i = 0; i < types.length; i++) {
            for (int j = 0; j < types.length; j++) {
                boolean sound = isIn(FITTING[i], types[j]) || isIn(FITTING[j], types[i]);
                either(checks, sound, in("say " + valueOf(types[i]) + " == ^" + valueOf(types[j]) + ";"));
                either(checks, sound, in("say " + valueOf(types[i]) + " != ^" + valueOf(types[j]) + ";"));
            }
        }
    }

    private static void giving(Checks checks) {
        checks.sentence("give (none where the SCENE or ACT tells a TYPE, or one where it tells none: at give)");
        checks.faulty(3, "scene f(): int { ^give; }");
        checks.faulty(3, "act lamp f(): row { ^give; }");
        checks.faulty(3, "scene f() { ^give 1; }");
        checks.faulty(3, "act lamp f() { ^give nobody; }");
        checks.faulty(3, "act lamp f() { if (1) { ^give me; } }");
        checks.sound("scene f() { give; } act lamp g(): lamp { give me; } scene h(): row { give nobody; } scene i(): int {}");
    }

    private static void calls(Checks checks) {
        String more = " scene none() {} scene two(i: int, j: puppet): int {} act puppet quiet() {} act puppet tells(i: int): int {}";
        checks.sentence("Of a call with too few or too many: at its NAME, ahead of its parts' types (these are looked at first by "
            + "themselves).");
        checks.faulty(3, in("^two();") + more);
        checks.faulty(3, in("^two(1);") + more);
        checks.faulty(3, in("^two(1, p, 1);") + more);
        checks.faulty(3, in("^none(nobody);") + more);
        checks.faulty(3, in("p.^quiet(1);") + more);
        checks.faulty(3, in("p.^tells();") + more);
        checks.faulty(3, in("p.^tells(p, p);") + more);
        checks.faulty(3, in("say p.^lift(1);") + more);
        checks.faulty(3, in("say p.^shine();") + more);
        checks.faulty(3, in("say p.^shine(1, 1);") + more);
        checks.faulty(3, in("say x.^line();") + more);
        checks.faulty(3, in("^two(p, 1, 1, 1, 1, 1, 1);") + more);
        checks.faulty(2, in("two(p, ^zz, 1);") + more);
        checks.faulty(3, in("two(p, -^p, 1);") + more);
        checks.faulty(3, in("two(^p, p);") + more);
        checks.faulty(3, in("two(^p, 1);") + more);
        checks.faulty(3, in("two(1, ^1);") + more);

        checks.sentence("what fits: for = and var, parameters of calls, give");
        checks.faulty(3, in("say a.heft(^p);") + more);
        checks.faulty(3, in("say a.to(^a);") + more);
        checks.faulty(3, in("say a.to(^x);") + more);
        checks.faulty(3, in("say a.go(^nobody);") + more);
        checks.faulty(3, in("say l.glow(^l);") + more);
        checks.faulty(3, in("say p.shine(^r);") + more);
        checks.faulty(3, in("say s.line(^c);") + more);
        checks.faulty(3, in("say m.go(^m);") + more);
        checks.faulty(3, in("say p.tells(^p);") + more);
        checks.sound(in("say a.to(s) + a.to(w) + a.to(nobody) + a.to(p.first());") + more);

        checks.sentence("A SCENE or ACT that tells no TYPE is called at the end of a PATH that is a STATEMENT alone: else at its NAME "
            + "(there).");
        checks.sound(in("none(); p.quiet(); p.first().quiet(); two(1, p); p.tells(1); p.lift();") + more);
        for (String wrong : new String[] {"say ^none();", "n = p.^quiet();", "^none().quiet();", "p.^quiet().quiet();", "two(^none(), p);",
            "say (^none());", "if (^none()) {}", "throw ^none();", "r[^none()] = p;", "^none()[0] = p;", "p.^quiet().age = 1;",
            "var v: int = ^none();", "say ^none() == 1;", "say 1 & ^none();", "say -p.^quiet();"}) {
            checks.faulty(3, in(wrong) + more);
        }
        checks.faulty(3, in("say ^none(1);") + more);
        checks.faulty(2, in("say none(^zz);") + more);
    }

    private static void order(Checks checks) {
        checks.sentence("Of the types of parts and of the whole of a PATH's step, those of the part ahead first.");
        checks.faulty(3, in("p = ^p[p];"));
        checks.faulty(3, in("^p[p] = zz;"));
        checks.faulty(3, in("say ^n[nobody];"));
        checks.faulty(3, in("say r[^nobody];"));
        checks.faulty(3, in("say ^r[0];"));
        checks.faulty(3, in("say ^p + p;"));
        checks.faulty(3, in("say ^p & p;"));
        checks.faulty(3, in("say ^p.first()[p];"));
        checks.faulty(3, in("say ^p[-p];"));
        checks.faulty(3, in("say ^p[zz];"));
        checks.faulty(2, in("say r[^zz];"));
        checks.faulty(3, in("say ^none()[p];") + " scene none() {}");
    }

    private static void lacks(Checks checks) {
        checks.sentence("A NUMBER of lack that is not 1 .. 12: 3, there.");
        checks.sound(in("try {} lack (1, 2, 3, 4, 5, 6, 7, 8, 9, 10, 11, 12) {}"));
        checks.sound(in("try {} lack (012, 001) {}"));
        checks.faulty(3, in("try {} lack (^0) {}"));
        checks.faulty(3, in("try {} lack (^13) {}"));
        checks.faulty(3, in("try {} lack (^999999999) {}"));
        checks.faulty(3, in("try {} lack (1, 12, ^000) {}"));
        checks.faulty(3, in("try {} lack (1) {} lack (^32, 33) {}"));
    }

    private static void fieldsAndCalls(Checks checks) {
        checks.sentence("KINDS, their fields and calls (int, where nothing else is told)");
        String fields = "prop.weight:int prop.owner:puppet prop.inside:prop lamp.light:int lamp.next:lamp lamp.on:puppet puppet.age:int "
            + "puppet.held:prop puppet.master:puppet puppet.lamp:lamp puppet.row:row puppet.word:cue singer.age:int singer.held:prop "
            + "singer.master:puppet singer.lamp:lamp singer.row:row singer.word:cue singer.pitch:int walker.age:int walker.held:prop "
            + "walker.master:puppet walker.lamp:lamp walker.row:row walker.word:cue walker.pace:int walker.next:walker cue.number:int "
            + "cue.about:puppet";
        String calls = "prop.heft(n):int prop.to(p):int prop.go(n):int lamp.far():int lamp.glow(n):int puppet.lift():int puppet.ask():int "
            + "puppet.shine(n):int puppet.many():int puppet.first():puppet puppet.shout():int singer.lift():int singer.ask():int "
            + "singer.shine(n):int singer.many():int singer.first():puppet singer.shout():int singer.line(n):int singer.glow(n):int "
            + "walker.lift():int walker.ask():int walker.shine(n):int walker.many():int walker.first():puppet walker.shout():int "
            + "walker.line(n):int walker.go(n):int speaker.line(n):int mover.go(n):int glower.glow(n):int";
        for (String type : TYPES.split(" ")) {
            for (String each : (fields + " " + calls).split(" ")) {
                has(checks, type, each, fields + " " + calls);
            }
        }
    }

    /** Whether a value of the type has the field or call, and what that is. */
    private static void has(Checks checks, String type, String told, String all) {
        String name = told.substring(told.indexOf('.') + 1, told.indexOf(':'));
        boolean called = name.indexOf('(') >= 0;
        String own = type + "." + name + ":";
        int at = (" " + all).indexOf(" " + own);
        if (at < 0) {
            checks.faulty(2, in("say " + valueOf(type) + ".^" + name + ";"));
            return;
        }
        String what = all.substring(at + own.length()).split(" ")[0];
        either(checks, what.equals("int"), in("say ^" + valueOf(type) + "." + name + ";"));
        checks.sound(in("var v: " + what + " = " + valueOf(type) + "." + name + "; v = " + (what.equals("int") ? "1;" : "nobody;")));
        if (called) {
            checks.faulty(2, in("say " + valueOf(type) + ".^" + name.substring(0, name.indexOf('(')) + ";"));
        } else {
            checks.sound(in(valueOf(type) + "." + name + " = " + (what.equals("int") ? "1;" : "nobody;")));
            checks.faulty(3, in(valueOf(type) + "." + name + " = ^" + (what.equals("int") ? "nobody;" : "1;")));
            checks.faulty(2, in("say " + valueOf(type) + ".^" + name + "();"));
        }
    }

    private static void asAndIs(Checks checks) {
        checks.sentence("as gives a value of that type (nobody stays nobody); is gives 1, if it is one (nobody is none), else 0.");
        String[] kinds = {"prop", "lamp", "puppet", "singer", "walker"};
        String[] types = {"prop", "lamp", "puppet", "singer", "walker", "speaker", "mover", "glower"};
        String[] belong = {"prop mover", "lamp glower", "puppet", "singer puppet speaker glower", "walker puppet speaker mover"};
        for (int i = 0; i < kinds.length; i++) {
            for (String type : types) {
                boolean one = isIn(belong[i], type);
                String head = "scene main() { var v: " + kinds[i] + " = new " + kinds[i] + "; ";
                checks.plays(head + "say v is " + type + "; }", 0, 0, one ? "1" : "0");
                checks.plays(head + "var t: " + type + " = v as " + type + "; say t is " + kinds[i] + "; }", one ? 0 : 1, one ? 0 : 10,
                    one ? "1" : "");
                checks.plays("scene main() { var v: " + kinds[i] + " = nobody; say v is " + type + "; var t: " + type + " = v as " + type
                    + "; say t == nobody; }", 0, 0, "0 1");
            }
        }
        checks.faulty(3, in("s = ^s as puppet;"));
        checks.faulty(3, in("s = ^s is singer;"));
        checks.sound(in("s = p as singer; x = p as speaker; a = m as prop; l = g as lamp;"));
    }
}
