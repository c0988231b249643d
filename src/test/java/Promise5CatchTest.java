/** Promise 5: try, lack, cue, always; FUEL, DEEP and FULL. */
public final class Promise5CatchTest {
    public static void main(String[] args) {
        Checks checks = new Checks("promise 5, catch");
        clauses(checks);
        always(checks);
        acrossCalls(checks);
        fuel(checks);
        deep(checks);
        fullOfThings(checks);
        fullOfItems(checks);
        fullOfUpsets(checks);
        checks.end();
    }

    private static void clauses(Checks checks) {
        checks.plays("scene main() { try { say 1; say 1 / 0; say 2; } lack (1) { say 3; } lack (11, 2) { say 4; } "
            + "lack (11) { say 5; } say 6; }", 0, 0, "1 4 6");
        checks.plays("scene main() { try { say 1 / 0; } lack (1, 10) { say 3; } say 6; }", 1, 11, "");
        checks.plays("scene main() { try { say 1; } lack (11) { say 3; } cue (a) { say 4; } say 6; }", 0, 0, "1 6");
        checks.plays("scene main() { try { throw new cue(9); } lack (5) { say 3; } cue (a) { say a.number; } cue (b) { say 5; } }",
            0, 0, "9");
        checks.plays("scene main() { try { throw nobody; } cue (a) { say 4; } lack (5) { say 3; } }", 0, 0, "3");
        checks.plays("scene main() { try { throw new cue(9); } lack (1,2,3,4,5,6,7,8,9,10,11,12) { say 3; } }", 2, 9, "");
        checks.plays("scene main() { try { try { say 1 / 0; } lack (11) { say 2 % 0; } lack (11) { say 8; } } "
            + "lack (11) { say 9; } }", 0, 0, "9");
        checks.plays("scene main() { try { try { throw new cue(1); } cue (a) { a.number = 2; throw a; } } "
            + "cue (b) { say b.number; } }", 0, 0, "2");
        checks.upsets("scene main() { try { throw new cue(1); } cue (a) { ^throw a; } }", 2, 1);
        checks.upsets("stage c: cue; scene main() { c = new cue(1); try { ^throw c; } always { c.number = 5; } }", 2, 5);
    }

    private static void always(Checks checks) {
        checks.plays("scene main() { try { say 1; } always { say 2; } say 3; }", 0, 0, "1 2 3");
        checks.plays("scene main() { try { say 1 / 0; } always { say 2; } say 3; }", 1, 11, "2");
        checks.plays("scene main() { try { throw new cue(4); } always { say 2; } say 3; }", 2, 4, "2");
        checks.plays("scene main() { try { give; } always { say 2; } say 3; }", 0, 0, "2");
        checks.plays("scene main() { try { say 1 / 0; } lack (11) { say 5; } always { say 2; } say 3; }", 0, 0, "5 2 3");
        checks.plays("scene main() { try { say 1 / 0; } lack (11) { throw new cue(6); } always { say 2; } say 3; }", 2, 6, "2");
        checks.plays("scene main() { try { say 1 / 0; } lack (11) { give; } always { say 2; } say 3; }", 0, 0, "2");
        checks.plays("scene main() { try { say 1 / 0; } always { give; } say 3; }", 0, 0, "");
        checks.plays("scene main() { try { give; } always { throw new cue(3); } }", 2, 3, "");
        checks.plays("scene main() { try { throw new cue(3); } cue (a) { say 1; } always { say 1 / 0; } }", 1, 11, "1");
        checks.plays("scene main() { try { try { say 1 / 0; } always { throw new cue(3); } } lack (11) { say 1; } "
            + "cue (a) { say a.number; } }", 0, 0, "3");
        checks.plays("scene main() { try { try { say 1 / 0; } always { try { say 2 / 0; } lack (11) { say 7; } } } "
            + "lack (11) { say 8; } }", 0, 0, "7 8");
        checks.plays("scene main() { say f(); } scene f(): int { try { give 1; } always { say 5; } }", 0, 0, "5 1");
        checks.plays("scene main() { say f(); } scene f(): int { try { give 1; } always { give 2; } }", 0, 0, "2");
        checks.plays("scene main() { var i: int = 0; while (i < 3) { try { i = i + 1; if (i == 2) { say 1 / 0; } } "
            + "lack (11) { say 9; } always { say i; } } }", 0, 0, "1 9 2 3");
        checks.plays("scene main() { try { try { try { give; } always { say 1; } } always { say 2; } } always { say 3; } }",
            0, 0, "1 2 3");
        checks.plays("scene main() { try { try { say 1 / 0; } lack (11) { throw new cue(1); } always { say 1 % 0; } } "
            + "lack (11) { say 2; } cue (a) { say 3; } }", 0, 0, "2");
    }

    private static void acrossCalls(Checks checks) {
        checks.plays("scene main() { try { say 1 + f(); } lack (11) { say 2; } say g(); } "
            + "scene f(): int { try { give 5 + 1 / 0; } always { say 9; } } scene g(): int { give 3; }", 0, 0, "9 2 3");
        checks.plays("act puppet q(n: int): int { if (n == 0) { throw me.word; } give me.q(n - 1) + 1; } "
            + "scene main() { var p: puppet = new singer; p.word = new cue(8); p.word.about = p; try { say p.q(5); } "
            + "cue (a) { say a.number; say a.about == p; } p.word = nobody; try { say p.q(1); } lack (5) { say 6; } }",
            0, 0, "8 1 6");
        checks.plays("scene main() { try { f(3); } always { say 100; } } scene f(n: int) { try { if (n == 0) { say 1 / 0; } "
            + "f(n - 1); } always { say n; } }", 1, 11, "0 1 2 3 100");
        checks.plays("scene main() { say 1 + f(2) * f(3); } scene f(n: int): int { try { say n / (n - 2); give n; } "
            + "lack (11) { give 50; } }", 0, 0, "3 151");
    }

    private static void fuelled(Checks checks, String text, int given, int answer, int left, String said) {
        PromptBook book = checks.sound(text);
        checks.due("play of " + text + " with " + given, book.play(0, 0, 0, given), answer);
        checks.due("FUEL left of " + text + " with " + given, book.about(4), left);
        checks.due("SAID of " + text + " with " + given, Checks.said(book), said);
    }

    private static void fuel(Checks checks) {
        fuelled(checks, "scene main() { say 1; say 2; }", 5, 0, 3, "1 2");
        fuelled(checks, "scene main() { say 1; say 2; }", 1, 3, 0, "1");
        fuelled(checks, "scene main() { say 1; say 2; }", 2, 0, 0, "1 2");
        fuelled(checks, "scene main() { if (0) { say 1; } else if (1) { say 2; } else { say 3; } }", 9, 0, 7, "2");
        fuelled(checks, "scene main() { var i: int = 0; while (i < 2) { i = i + 1; } }", 9, 0, 2, "");
        fuelled(checks, "scene main() { while (1) { } }", 9, 3, 0, "");
        fuelled(checks, "scene main() { while (0) { } }", 2, 0, 0, "");
        fuelled(checks, "scene main() { while (0) { } }", 1, 3, 0, "");
        fuelled(checks, "scene main() { f(); } scene f() { }", 9, 0, 7, "");
        fuelled(checks, "scene main() { f(); } scene f() { say 1; }", 2, 3, 0, "");
        fuelled(checks, "scene main() { f(g()); } scene f(n: int) { } scene g(): int { say 4; give 1; }", 4, 3, 0, "4");
        fuelled(checks, "scene main() { try { say 1; } always { say 2; } }", 9, 0, 6, "1 2");
        fuelled(checks, "scene main() { try { while (1) { } } lack (1) { say 1; } cue (a) { say 2; } always { say 3; } }", 9, 3, 0, "");
        fuelled(checks, "scene main() { try { try { say 1 / 0; } always { say 3; } } lack (11) { say 4; } }", 4, 3, 0, "3");
        fuelled(checks, "act puppet q() { } scene main() { var p: puppet = nobody; p.q(); }", 2, 1, 0, "");
        fuelled(checks, "act puppet q() { } scene main() { var p: puppet = new puppet; p.q(); }", 2, 3, 0, "");
        fuelled(checks, "scene main() { var l: lamp = new lamp; say l.glow(4); give; }", 5, 0, 2, "4");
    }

    private static void deep(Checks checks) {
        String text = "stage d: int; scene main(n: int) { d = d + 1; if (n > 1) { main(n - 1); } say n; }";
        PromptBook book = checks.sound(text);
        checks.due("16 deep", book.play(0, 16, 0, 1000), 0);
        checks.due("all SAID", book.about(5), 16);
        checks.due("FUEL left", book.about(4), 1000 - 16 * 3 - 15 * 2);
        checks.due("17 deep", book.play(0, 17, 0, 1000), 4);
        checks.due("nothing SAID", book.about(5), 0);
        checks.due("no kind", book.about(1), 0);
        checks.due("no place", book.about(2), -1);
        checks.due("FUEL left, the call's taken", book.about(4), 1000 - 16 * 2 - 16 * 2);
        checks.due("what was done stays", book.stage(0, 0), 32);
        checks.due("16 again", book.play(0, 16, 0, 1000), 0);
        checks.due("FUEL ahead of DEEP", book.play(0, 17, 0, 16 * 2 + 15 * 2 + 1), 3);
        checks.plays("scene main() { try { f(); } lack (1) { say 1; } always { say 2; } } scene f() { try { f(); } always { say 3; } }",
            4, 0, "");
        checks.plays("scene main() { try { p(); } always { say 2; } } scene p() { var i: int = 0; while (i < 40) { i = i + 1; q(); } "
            + "say i; } scene q() { }", 0, 0, "40 2");
    }

    private static void fullOfThings(Checks checks) {
        String text = "stage k: int; stage p: prop; scene main(n: int) { k = 0; while (k < n) { k = k + 1; p = new prop; } } "
            + "scene other() { say 1; } scene cued() { var c: cue = new cue(1); } scene rowed() { var r: row = new row[0]; }";
        PromptBook book = checks.sound(text);
        for (int i = 0; i < 4; i++) {
            checks.due("5,000 things", book.play(0, 5000, 0, 20000), 0);
        }
        checks.due("things", book.about(6), 20000);
        checks.due("a play without new things", book.play(1, 0, 0, 20), 0);
        checks.due("one thing more", book.play(3, 0, 0, 20), 5);
        checks.due("FUEL left", book.about(4), 19);
        checks.due("things still", book.about(6), 20000);
        checks.due("FULL for ever", book.play(1, 0, 0, 20), 5);
        checks.due("all FUEL is left", book.about(4), 20);
        checks.due("nothing SAID", book.about(5), 0);
        checks.due("NONE comes ahead", book.play(9, 0, 0, 20), -1);
        checks.due("a new book", Checks.take(book, text), "4");
        checks.due("is FULL as well", book.play(1, 0, 0, 0), 5);
        checks.due("kind", book.about(1), 0);
        checks.due("place", book.about(2), -1);
    }

    private static void fullOfItems(Checks checks) {
        PromptBook book = checks.sound("stage r: row; scene main(n: int, m: int) { while (n > 0) { n = n - 1; r = new row[m]; } } "
            + "scene size() { try { r = new row[1001]; } lack (12) { say 12; } always { say 3; } }");
        checks.due("59,000 items", book.play(0, 59, 1000, 20000), 0);
        checks.due("999 more", book.play(0, 1, 999, 20000), 0);
        checks.due("one more", book.play(0, 1, 1, 20000), 0);
        checks.due("items", book.about(7), 60000);
        checks.due("an empty row", book.play(0, 1, 0, 20000), 0);
        checks.due("SIZE comes ahead of FULL", book.play(1, 0, 0, 20000), 0);
        checks.due("SAID", Checks.said(book), "12 3");
        checks.due("one item too many", book.play(0, 1, 1, 20000), 5);
        checks.due("things", book.about(6), 62);
        checks.due("items still", book.about(7), 60000);
        checks.due("the row stays", book.stage(0, 2), 0);
        checks.due("FULL", book.play(0, 0, 0, 7), 5);
    }

    private static void fullOfUpsets(Checks checks) {
        PromptBook book = checks.sound("stage k: int; scene main(n: int) { k = 0; while (k < n) { k = k + 1; try { say 1 / 0; } "
            + "lack (11) { } } } scene one() { try { say 1 / 0; } lack (11) { say 4; } always { say 5; } }");
        checks.due("1,499 UPSETS", book.play(0, 1499, 0, 20000), 0);
        checks.due("UPSETS", book.about(8), 1499);
        checks.due("the 1,500th", book.play(1, 0, 0, 9), 0);
        checks.due("UPSETS then", book.about(8), 1500);
        checks.due("the 1,501st", book.play(1, 0, 0, 9), 5);
        checks.due("nobody sees it", book.about(5), 0);
        checks.due("UPSETS still", book.about(8), 1500);
        checks.due("FUEL left", book.about(4), 7);
        checks.due("FULL", book.play(0, 0, 0, 9), 5);
    }
}
