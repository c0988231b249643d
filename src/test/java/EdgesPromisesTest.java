/** The nine promises of the document, sentence by sentence: what is too small, too large, empty, full or refused. */
public final class EdgesPromisesTest {
    private static final int BLANKS = 0x20202020;
    private static final int LEAST = Integer.MIN_VALUE;
    private static final int MOST = Integer.MAX_VALUE;

    public static void main(String[] args) {
        Checks checks = new Checks("edges of the promises");
        newObject(checks);
        feeding(checks);
        taking(checks);
        refusedBooks(checks);
        faults(checks);
        playing(checks);
        refusedPlays(checks);
        beginnings(checks);
        aboutPlays(checks);
        aboutAll(checks);
        saying(checks);
        staging(checks);
        fields(checks);
        checks.end();
    }

    private static int feedBlanks(PromptBook book) {
        return book.feed(BLANKS, BLANKS, BLANKS, BLANKS, BLANKS);
    }

    private static void newObject(Checks checks) {
        checks.sentence("No book (no STAGES, no SCENES), an empty tape, nothing SAID.");
        PromptBook book = new PromptBook();
        checks.due("stage(0, 0)", book.stage(0, 0), -1);
        checks.due("stage(0, 1)", book.stage(0, 1), -1);
        checks.due("field(0, 0)", book.field(0, 0), -1);
        checks.due("play(0)", book.play(0, 0, 0, 0), -1);
        checks.due("said(0)", Checks.saidOf(book, 0), Checks.THROWS_NO_SUCH);
        checks.due("about(5)", book.about(5), 0);
        checks.due("book(1)", Checks.bookOf(book, 1), Checks.THROWS_ILLEGAL);
        checks.due("feed", feedBlanks(book), 20);
        checks.sentence("NONE = -1: There is none.");
        checks.due("NONE", PromptBook.NONE, -1);
    }

    private static void feeding(Checks checks) {
        checks.sentence("Twenty bytes come behind those on the tape: four of each number, the highest first: how many there are.");
        // "stage a:int;scene b(){say a-9;}" and nine blanks.
        PromptBook book = new PromptBook();
        checks.due("feed", book.feed(0x73746167, 0x6520613a, 0x696e743b, 0x7363656e, 0x65206228), 20);
        checks.due("feed", book.feed(0x297b7361, 0x7920612d, 0x393b7d20, BLANKS, BLANKS), 40);
        checks.due("book", Checks.bookOf(book, 40), "1");
        checks.due("play", book.play(0, 0, 0, 1), 0);
        checks.due("SAID", Checks.said(book), "-9");
        for (int at = 0; at < 20; at++) {
            int[] numbers = {BLANKS, BLANKS, BLANKS, BLANKS, BLANKS};
            // 255, a byte that is no token, in one place of the twenty.
            numbers[at / 4] |= 0xff << 24 - at % 4 * 8;
            book.feed(numbers[0], numbers[1], numbers[2], numbers[3], numbers[4]);
            checks.due("book of byte " + at, Checks.bookOf(book, 20), Checks.THROWS_ILLEGAL);
            checks.due("its place", book.fault(1), at);
        }
        checks.sentence("NONE, and nothing is done, when there would be more than 4,000.");
        PromptBook full = new PromptBook();
        Checks.feed(full, "scene a() { say 5; }");
        for (int i = 2; i <= 200; i++) {
            checks.due("feed " + i, feedBlanks(full), 20 * i);
        }
        checks.due("feed 201", full.feed(-1, -1, -1, -1, -1), -1);
        checks.due("feed 202", full.feed(0, 0, 0, 0, 0), -1);
        checks.due("book(4001)", Checks.bookOf(full, 4001), Checks.THROWS_ILLEGAL);
        checks.due("book(4000)", Checks.bookOf(full, 4000), "1");
        checks.due("the tape is empty then", feedBlanks(full), 20);
    }

    private static void taking(Checks checks) {
        checks.sentence("The first n bytes of the tape, which is empty then, are the book: how many SCENES it has.");
        PromptBook book = new PromptBook();
        checks.due("book(0) of an empty tape", Checks.bookOf(book, 0), "0");
        Checks.feed(book, "scene a() {} scene b() {}");
        checks.due("book(12) of 40", Checks.bookOf(book, 12), "1");
        checks.due("the tape is empty", feedBlanks(book), 20);
        checks.due("book(0) of 20", Checks.bookOf(book, 0), "0");
        checks.due("the SCENE is gone", book.play(0, 0, 0, 9), -1);
        checks.due("the tape is empty", feedBlanks(book), 20);
        checks.due("book(20) of blanks", Checks.bookOf(book, 20), "0");
        checks.due("ACTS are no SCENES", Checks.take(book, "act prop a() {} scene b() {} act lamp c() {}"), "1");
        StringBuilder most = new StringBuilder();
        for (int i = 0; i < 16; i++) {
            most.append("scene s").append(i).append("(){say ").append(i).append(";}");
        }
        checks.due("16 SCENES", Checks.take(book, most.toString()), "16");
        checks.due("the last", book.play(15, 0, 0, 1), 0);
        checks.due("SAID", Checks.said(book), "15");
        checks.due("behind it", book.play(16, 0, 0, 1), -1);
    }

    private static void refusedBooks(Checks checks) {
        checks.sentence("IllegalArgumentException: n is below 0, or there are not so many (the tape stays);");
        PromptBook book = new PromptBook();
        Checks.feed(book, "scene a() { say 5; }");
        for (int n : new int[] {-1, 21, 4000, LEAST, MOST}) {
            checks.due("book(" + n + ")", Checks.bookOf(book, n), Checks.THROWS_ILLEGAL);
            checks.due("fault(0)", book.fault(0), 0);
            checks.due("play", book.play(0, 0, 0, 9), -1);
        }
        checks.due("the tape stays", Checks.bookOf(book, 20), "1");

        checks.sentence("or it has a FAULT (the book, STAGES and all else stay as they are).");
        String text = "stage n: int; stage p: puppet; scene a(): int { n = n + 4; p = new singer; p.row = new row[3]; say n; "
            + "try { say 1 / 0; } lack (11) {} give 6; }";
        for (String faulty : new String[] {";", "scene b() { say zz; }", "scene b() { say nobody; }", "stage abcdefghijklm: int;"}) {
            PromptBook kept = checks.sound(text);
            checks.due("play", kept.play(0, 0, 0, 50), 0);
            checks.due("book of " + faulty, Checks.take(kept, faulty), Checks.THROWS_ILLEGAL);
            int[] due = {0, 0, -1, 6, 43, 1, 2, 3, 1};
            for (int what = 0; what < due.length; what++) {
                checks.due("about(" + what + ")", kept.about(what), due[what]);
            }
            checks.due("SAID", Checks.said(kept), "4");
            checks.due("n", kept.stage(0, 0), 4);
            checks.due("p", kept.stage(1, 0), 4);
            checks.due("p.row", kept.field(1, 4), 6);
            checks.due("play again", kept.play(0, 0, 0, 50), 0);
            checks.due("SAID", Checks.said(kept), "8");
        }
    }

    private static void faults(Checks checks) {
        checks.sentence("Of the latest book() that had as many bytes as told: 0 its FAULT (0: none, also ahead of any), 1 the place "
            + "(NONE without one). NONE for others.");
        PromptBook book = new PromptBook();
        faultIs(checks, book, 0, -1);
        Checks.bookOf(book, 1);
        faultIs(checks, book, 0, -1);
        Checks.take(book, "scene a() { say zz; }");
        faultIs(checks, book, 2, 16);
        Checks.bookOf(book, -1);
        faultIs(checks, book, 2, 16);
        Checks.bookOf(book, 1);
        faultIs(checks, book, 2, 16);
        Checks.take(book, "scene");
        faultIs(checks, book, 1, 5);
        Checks.take(book, "?");
        faultIs(checks, book, 1, 0);
        Checks.take(book, "scene a() { throw 1; }");
        faultIs(checks, book, 3, 18);
        Checks.take(book, "  1234567890");
        faultIs(checks, book, 4, 2);
        Checks.take(book, "scene a() {}");
        faultIs(checks, book, 0, -1);
        Checks.take(book, ";");
        Checks.bookOf(book, 0);
        faultIs(checks, book, 0, -1);
    }

    private static void faultIs(Checks checks, PromptBook book, int kind, int place) {
        checks.due("fault(0)", book.fault(0), kind);
        checks.due("fault(1)", book.fault(1), place);
        for (int what : new int[] {-1, 2, 3, LEAST, MOST}) {
            checks.due("fault(" + what + ")", book.fault(what), -1);
        }
    }

    private static final String PLAYED = "stage n: int; stage p: prop; scene none() { n = n + 1; } scene one(a: int): int { give a; } "
        + "scene two(a: int, b: int): int { give a - b; } scene three(a: int, b: int, c: int) { n = 50; } scene thing(a: prop) { n = 51; } "
        + "scene mixed(a: int, b: row) { n = 52; } scene upset() { say 1; n = #p2(); } scene cued() { say 1; throw new cue(3); } "
        + "scene long() { while (1) {} } scene deep() { deep(); } scene p2(): row { } act prop q() { n = 53; }";

    private static void playing(Checks checks) {
        checks.sentence("SCENE k, with a and b for its parameters (as many as it has, at most two, both int) and so much FUEL:");
        PromptBook book = checks.sound(PLAYED);
        checks.due("none", book.play(0, 8, 9, 20), 0);
        checks.due("one", book.play(1, LEAST, 9, 20), 0);
        checks.due("a", book.about(3), LEAST);
        checks.due("two", book.play(2, 8, 10, 20), 0);
        checks.due("a - b", book.about(3), -2);
        checks.due("two, the greatest", book.play(2, LEAST, 1, 20), 0);
        checks.due("a - b", book.about(3), MOST);
        checks.sentence("0 it came to its end, 1 an UPSET came out, 2 a CUE came out, 3 FUEL, 4 DEEP, 5 FULL.");
        checks.due("an end", book.play(0, 0, 0, 1), 0);
        checks.due("an UPSET", book.play(6, 0, 0, 20), 1);
        checks.due("a CUE", book.play(7, 0, 0, 20), 2);
        checks.due("FUEL", book.play(8, 0, 0, 20000), 3);
        checks.due("DEEP", book.play(9, 0, 0, 20000), 4);
        PromptBook full = checks.sound("scene main() { while (1) { var v: row = new row[1000]; } }");
        checks.due("FULL", full.play(0, 0, 0, 20000), 5);
    }

    private static void refusedPlays(Checks checks) {
        checks.sentence("NONE, and nothing is done: no such SCENE, other parameters, fuel not 0 .. 20,000.");
        PromptBook book = checks.sound(PLAYED);
        book.play(7, 0, 0, 30);
        for (int k : new int[] {-1, 11, 12, LEAST, MOST, 3, 4, 5}) {
            checks.due("play(" + k + ")", book.play(k, 0, 0, 20), -1);
        }
        for (int fuel : new int[] {-1, 20001, LEAST, MOST}) {
            checks.due("play with " + fuel, book.play(0, 0, 0, fuel), -1);
        }
        checks.due("nothing is done", book.stage(0, 0), 0);
        checks.due("about(0) stays", book.about(0), 2);
        checks.due("about(1) stays", book.about(1), 3);
        checks.due("about(4) stays", book.about(4), 28);
        checks.due("SAID stays", Checks.said(book), "1");
        checks.due("FUEL 0", book.play(0, 0, 0, 0), 3);
        checks.due("nothing is done without", book.stage(0, 0), 0);
        checks.due("FUEL 20,000", book.play(0, 0, 0, 20000), 0);
        checks.due("about(4)", book.about(4), 19999);
        checks.due("done", book.stage(0, 0), 1);
    }

    private static void beginnings(Checks checks) {
        checks.sentence("(Nothing is SAID when it begins; it is no call of a SCENE: it takes no FUEL of its own, and is the first of the "
            + "16.)");
        PromptBook book = checks.sound("scene a() { say 1; } scene b() {} scene c(n: int) { if (n > 1) { c(n - 1); } }");
        book.play(0, 0, 0, 9);
        checks.due("an empty SCENE without FUEL", book.play(1, 0, 0, 0), 0);
        checks.due("about(5)", book.about(5), 0);
        checks.due("said(0)", Checks.saidOf(book, 0), Checks.THROWS_NO_SUCH);
        book.play(0, 0, 0, 9);
        checks.due("about(4)", book.about(4), 8);
        checks.due("16 in all", book.play(2, 16, 0, 500), 0);
        checks.due("17 in all", book.play(2, 17, 0, 500), 4);
    }

    private static void told(Checks checks, PromptBook book, String when, int[] due) {
        for (int what = 0; what < due.length; what++) {
            checks.due("about(" + what + ") " + when, book.about(what), due[what]);
        }
        for (int what : new int[] {-1, 9, 10, LEAST, MOST}) {
            checks.due("about(" + what + ") " + when, book.about(what), -1);
        }
    }

    private static void aboutPlays(Checks checks) {
        checks.sentence("(0: NONE, 1 to 5: 0, but 2: NONE, ahead of any.)");
        told(checks, new PromptBook(), "of a new object", new int[] {-1, 0, -1, 0, 0, 0, 0, 0, 0});
        PromptBook book = checks.sound(PLAYED);
        told(checks, book, "ahead of any", new int[] {-1, 0, -1, 0, 0, 0, 0, 0, 0});
        book.play(0, 0, 0, -1);
        told(checks, book, "behind NONE", new int[] {-1, 0, -1, 0, 0, 0, 0, 0, 0});
        checks.sentence("Of the latest play() that was not NONE: 0 what it answered; 1 the UPSET's kind, the CUE's number (0 for "
            + "others); 2 their place in the book (NONE for others); 3 what the SCENE gave, if it came to its end and tells int (else "
            + "0); 4 FUEL that was left; 5 how many numbers were SAID.");
        book.play(2, 9, 4, 10);
        told(checks, book, "of an end", new int[] {0, 0, -1, 5, 9, 0, 0, 0, 0});
        book.play(0, 9, 4, 10);
        told(checks, book, "without a TYPE", new int[] {0, 0, -1, 0, 9, 0, 0, 0, 0});
        book.play(10, 9, 4, 10);
        told(checks, book, "of a row", new int[] {0, 0, -1, 0, 10, 0, 0, 0, 0});
        book.play(6, 9, 4, 10);
        told(checks, book, "of an UPSET", new int[] {1, 6, PLAYED.indexOf("#"), 0, 7, 1, 0, 0, 1});
        book.play(7, 9, 4, 10);
        told(checks, book, "of a CUE", new int[] {2, 3, PLAYED.indexOf("throw"), 0, 8, 1, 1, 0, 1});
        book.play(8, 9, 4, 10);
        told(checks, book, "of FUEL", new int[] {3, 0, -1, 0, 0, 0, 1, 0, 1});
        book.play(9, 9, 4, 40);
        told(checks, book, "of DEEP", new int[] {4, 0, -1, 0, 8, 0, 1, 0, 1});
        PromptBook gave = checks.sound("scene a(n: int): int { if (n) { say n; say 1 / (n - 1); give n; } }");
        gave.play(0, -5, 0, 10);
        checks.due("about(3)", gave.about(3), -5);
        gave.play(0, 1, 0, 10);
        checks.due("about(3) of an UPSET", gave.about(3), 0);
        gave.play(0, -5, 0, 10);
        gave.play(0, -5, 0, 2);
        checks.due("about(3) of FUEL", gave.about(3), 0);
        gave.play(0, 0, 0, 10);
        checks.due("about(3) without give", gave.about(3), 0);
        PromptBook cued = checks.sound("scene a(n: int) { throw new cue(n); }");
        cued.play(0, -1, 0, 5);
        checks.due("about(1) of a CUE of -1", cued.about(1), -1);
        cued.play(0, 0, 0, 5);
        checks.due("about(1) of a CUE of 0", cued.about(1), 0);
        checks.due("about(2) of a CUE of 0", cued.about(2), 18);
    }

    private static void aboutAll(Checks checks) {
        checks.sentence("Of all: 6 things made, 7 items of rows, 8 UPSETS. NONE for others.");
        PromptBook book = checks.sound("scene a() { var v: row = new row[7]; var c: cue = new cue(1); var l: lamp = new lamp; var e: row "
            + "= new row[0]; "
            + "try { say 1 / 0; } lack (11) {} v = new row[1001]; }");
        for (int i = 1; i <= 3; i++) {
            book.play(0, 0, 0, 50);
            told(checks, book, "of play " + i, new int[] {1, 12, book.about(2), 0, 43, 0, 4 * i, 7 * i, 2 * i});
        }
        Checks.take(book, "scene b() {}");
        book.play(0, 0, 0, 50);
        told(checks, book, "of a new book", new int[] {0, 0, -1, 0, 50, 0, 12, 21, 6});
    }

    private static void saying(Checks checks) {
        checks.sentence("Number i that was SAID in the latest play (the first 2,000 are kept). NoSuchElementException: there is none "
            + "such.");
        PromptBook book = checks.sound("scene a(n: int) { var i: int = 0; while (i < n) { i = i + 1; say i * 10; } } scene b() { say 1 / "
            + "0; }");
        checks.due("said(0) ahead of any", Checks.saidOf(book, 0), Checks.THROWS_NO_SUCH);
        for (int count : new int[] {1, 2, 1999, 2000, 2001, 2500}) {
            book.play(0, count, 0, 20000);
            int kept = Math.min(count, 2000);
            checks.due("the first of " + count, Checks.saidOf(book, 0), "10");
            checks.due("the last of " + count, Checks.saidOf(book, kept - 1), Integer.toString(kept * 10));
            for (int none : new int[] {kept, kept + 1, count, -1, LEAST, MOST}) {
                checks.due("said(" + none + ") of " + count, Checks.saidOf(book, none), Checks.THROWS_NO_SUCH);
            }
            book.play(0, 5, 0, -1);
            checks.due("behind NONE", Checks.saidOf(book, 0), "10");
        }
        book.play(1, 0, 0, 20000);
        checks.due("said(0) of none", Checks.saidOf(book, 0), Checks.THROWS_NO_SUCH);
    }

    private static void staging(Checks checks) {
        checks.sentence("Of STAGE k what 0: its number, if it tells int, else what it has: 0 nobody, 1 a prop, 2 a lamp, 3 a puppet, 4 a "
            + "singer, 5 a walker, 6 a row, 7 a cue;");
        PromptBook book = checks.sound("stage n: int; stage a: prop; stage l: lamp; stage p: puppet; stage q: puppet; stage o: puppet; "
            + "stage r: row; stage c: cue; "
            + "stage x: speaker; stage m: mover; stage g: glower; stage z: row; scene fill() { n = 0 - 1; a = new prop; l = new lamp; p "
            + "= new puppet; q = new singer; "
            + "o = new walker; r = new row[1000]; c = new cue(0); x = q as singer; m = o as walker; g = l; z = new row[0]; } scene "
            + "empty() { a = nobody; l = nobody; "
            + "p = q; q = nobody; n = 0; r = z; }");
        stagesAre(checks, book, 0, new int[] {0, 0, 0, 0, 0, 0, 0, 0, 0, 0, 0, 0});
        stagesAre(checks, book, 1, new int[] {0, 1, 2, 3, 4, 5, 6, 7, 8, 9, 10, 11});
        book.play(0, 0, 0, 50);
        stagesAre(checks, book, 0, new int[] {-1, 1, 2, 3, 4, 5, 6, 7, 4, 5, 2, 6});
        checks.sentence("1: the least STAGE that has the same thing (k for numbers and nobody);");
        stagesAre(checks, book, 1, new int[] {0, 1, 2, 3, 4, 5, 6, 7, 4, 5, 2, 11});
        checks.sentence("2: items of a row (0 of others).");
        stagesAre(checks, book, 2, new int[] {0, 0, 0, 0, 0, 0, 1000, 0, 0, 0, 0, 0});
        book.play(1, 0, 0, 50);
        stagesAre(checks, book, 0, new int[] {0, 0, 0, 4, 0, 5, 6, 7, 4, 5, 2, 6});
        stagesAre(checks, book, 1, new int[] {0, 1, 2, 3, 4, 5, 6, 7, 3, 5, 10, 6});
        stagesAre(checks, book, 2, new int[12]);
        checks.sentence("NONE for others, or if there is none such.");
        for (int k : new int[] {-1, 12, LEAST, MOST}) {
            for (int what = 0; what < 3; what++) {
                checks.due("stage(" + k + ", " + what + ")", book.stage(k, what), -1);
            }
        }
        for (int what : new int[] {-1, 3, LEAST, MOST}) {
            for (int k = 0; k < 12; k++) {
                checks.due("stage(" + k + ", " + what + ")", book.stage(k, what), -1);
            }
        }
    }

    private static void stagesAre(Checks checks, PromptBook book, int what, int[] due) {
        for (int k = 0; k < due.length; k++) {
            checks.due("stage(" + k + ", " + what + ")", book.stage(k, what), due[k]);
        }
    }

    private static void fields(Checks checks) {
        checks.sentence("Field f of the thing that STAGE k has, in the order told in 2. (of singers, walkers those of puppets first; of "
            + "cues 0 number, 1 about; of rows item f):");
        String head = "stage n: int; stage t: %s; scene main() { n = 7; var v: %s = new %s; t = v; ";
        String puppet = "v.age = -1; v.held = new prop; v.master = new walker; v.lamp = new lamp; v.row = new row[1]; v.word = new "
            + "cue(1); ";
        fieldsAre(checks, String.format(head, "prop", "prop", "prop") + "v.weight = -5; v.owner = new singer; v.inside = v; "
            + "}", new int[] {-5, 4, 21});
        fieldsAre(checks, String.format(head, "glower", "lamp", "lamp") + "v.light = 0; v.next = v; v.on = new puppet; "
            + "}", new int[] {0, 22, 3});
        fieldsAre(checks, String.format(head, "puppet", "puppet", "puppet") + puppet + "}", new int[] {-1, 1, 5, 2, 6, 7});
        fieldsAre(checks, String.format(head, "puppet", "singer", "singer") + puppet + "v.pitch = 9; }", new int[] {-1, 1, 5, 2, 6, 7, 9});
        fieldsAre(checks, String.format(head, "mover", "walker", "walker") + puppet + "v.pace = 8; v.next = v; "
            + "}", new int[] {-1, 1, 5, 2, 6, 7, 8, 25});
        fieldsAre(checks, String.format(head, "cue", "cue", "cue(-3)") + "v.about = new singer; }", new int[] {-3, 4});
        fieldsAre(checks, String.format(head, "row", "row", "row[3]") + "v[0] = new singer; v[2] = new walker; }", new int[] {4, 0, 5});
        fieldsAre(checks, String.format(head, "row", "row", "row[0]") + "}", new int[0]);
        fieldsAre(checks, String.format(head, "row", "row", "row[0]") + "t = nobody; }", new int[0]);
        checks.sentence("of others what it has, as of stage(), and ten times as much as the least STAGE that has that thing, 1 more "
            + "(nothing more without such a STAGE).");
        PromptBook book = checks.sound("stage a: puppet; stage b: puppet; stage c: int; stage d: puppet; stage e: puppet; stage f: "
            + "puppet; stage g: puppet; "
            + "stage h: puppet; stage i: puppet; stage j: puppet; stage k: puppet; stage l: walker; scene main() { l = new walker; "
            + "l.master = l; a = new singer; "
            + "a.master = a; b = new singer; b.master = l; d = a; e = new puppet; e.master = d; }");
        book.play(0, 0, 0, 50);
        checks.due("STAGE 11", book.field(11, 2), 5 + 120);
        checks.due("STAGE 0", book.field(0, 2), 4 + 10);
        checks.due("STAGE 11 by another", book.field(1, 2), 5 + 120);
        checks.due("the least of two", book.field(4, 2), 4 + 10);
        checks.due("nobody", book.field(0, 3), 0);
        checks.sentence("NONE if there is none such.");
        for (int k : new int[] {-1, 2, 5, 12, LEAST, MOST}) {
            checks.due("field(" + k + ", 0)", book.field(k, 0), -1);
        }
    }

    /** The fields of STAGE 1, and none ahead of or behind them; STAGE 0 has a number. */
    private static void fieldsAre(Checks checks, String text, int[] due) {
        PromptBook book = checks.plays(text, 0, 0, "");
        for (int f = 0; f < due.length; f++) {
            checks.due("field(1, " + f + ") of " + text, book.field(1, f), due[f]);
        }
        for (int f : new int[] {-1, due.length, due.length + 1, 1000, LEAST, MOST}) {
            checks.due("field(1, " + f + ") of " + text, book.field(1, f), -1);
        }
        checks.due("field(0, 0) of " + text, book.field(0, 0), -1);
        checks.due("field(2, 0) of " + text, book.field(2, 0), -1);
    }
}
