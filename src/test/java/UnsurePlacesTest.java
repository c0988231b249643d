/** Seven places of the document that can be read in more than one way: how each is read here, and by which words. */
public final class UnsurePlacesTest {
    private static final String STAGES = "stage n: int; stage p: puppet; stage r: row; stage c: cue; ";

    public static void main(String[] args) {
        Checks checks = new Checks("unsure places");
        tapeBehindFault(checks);
        literalNobody(checks);
        severalFaults(checks);
        fuelOfElseIf(checks);
        stepsOfNewRow(checks);
        manySaid(checks);
        fieldWithStage(checks);
        checks.end();
    }

    private static String in(String statements) {
        return STAGES + "scene main() {" + statements + "}";
    }

    /** "Empty then" is told of every book that had its n bytes; "the tape stays" only of an n that the tape has not. */
    private static void tapeBehindFault(Checks checks) {
        checks.sentence("The first n bytes of the tape, which is empty then, are the book");
        for (String faulty : new String[] {"?", "scene a() { say zz; }", "scene a() { say nobody; }", "stage abcdefghijklm: int;"}) {
            PromptBook book = new PromptBook();
            checks.due("book of " + faulty, Checks.take(book, faulty), Checks.THROWS_ILLEGAL);
            checks.due("there are no bytes", Checks.bookOf(book, 1), Checks.THROWS_ILLEGAL);
            checks.due("the FAULT is that of the book", book.fault(0) > 0 ? 1 : 0, 1);
            checks.due("a feed", book.feed(0, 0, 0, 0, 0), 20);
            checks.due("book(-1)", Checks.bookOf(book, -1), Checks.THROWS_ILLEGAL);
            checks.due("book(21)", Checks.bookOf(book, 21), Checks.THROWS_ILLEGAL);
            checks.due("the tape stays", book.feed(0, 0, 0, 0, 0), 40);
            checks.due("book(0)", Checks.bookOf(book, 0), "0");
            checks.due("a sound book behind it", Checks.take(book, "scene a() {}"), "1");
        }
    }

    /** Nobody fits row and cue; only ahead of as and is the document says "not nobody". */
    private static void literalNobody(Checks checks) {
        checks.sentence("nobody fits all but int. .. row for # and ahead of [ ]; cue for throw; a KIND or ROLE (not nobody) ahead of as "
            + "and is;");
        checks.upsets(in("say ^#nobody;"), 1, 6);
        checks.upsets(in("p = nobody^[0];"), 1, 7);
        checks.upsets(in("(nobody)^[0] = p;"), 1, 8);
        checks.upsets(in("^throw nobody;"), 1, 5);
        checks.faulty(3, in("p = ^nobody as puppet;"));
        checks.faulty(3, in("n = ^nobody is puppet;"));
        checks.faulty(3, in("say ^nobody;"));
        checks.faulty(3, in("say r[^nobody] == p;"));
        checks.faulty(3, in("say #^p;"));
        checks.faulty(3, in("throw ^p;"));
    }

    /**
     * A part wholly is a part with the type that it must have: it is that part which "has another type than it must".
     * So a left part's type comes ahead of all that is in the right part, and what is ahead of [ ] must be a row
     * before what is inside is looked at. Only of a call the document says that its parts come first by themselves.
     */
    private static void severalFaults(Checks checks) {
        checks.sentence("in each the parts from the left, each wholly, then the whole: the first that is not as 2. has it");
        for (String sign : "* / % + - < <= > >= & |".split(" ")) {
            checks.faulty(3, in("say ^p " + sign + " zz;"));
            checks.faulty(2, in("say ^zz " + sign + " p;"));
            checks.faulty(2, in("say n " + sign + " ^zz;"));
            checks.faulty(3, in("say ^p " + sign + " p;"));
            checks.faulty(3, in("say n " + sign + " ^p;"));
            checks.faulty(3, in("say ^p " + sign + " -p;"));
            checks.faulty(3, in("say ^p.master " + sign + " p.zz;"));
            checks.faulty(3, in("say ^(p) " + sign + " (zz);"));
            checks.faulty(3, in("say n " + sign + " ^nobody;"));
        }
        checks.faulty(3, in("say ^p + n + zz;"));
        for (String sign : "* / % + - & |".split(" ")) {
            checks.faulty(3, in("say n " + sign + " ^p " + sign + " zz;"));
        }
        checks.faulty(3, in("say n + ^p * zz;"));
        checks.faulty(3, in("say n | ^r & zz;"));
        checks.faulty(3, in("say ^p + (p + n);"));
        checks.faulty(3, in("say ^p + main(zz);"));
        checks.faulty(3, in("say ^p < n + zz;"));
        checks.faulty(2, in("say p == ^zz;"));
        checks.faulty(3, in("say p == ^n + 1;"));
        checks.faulty(2, in("var v: int = ^zz;"));
        checks.faulty(2, in("give ^zz;"));
        checks.sentence("of a call its NAME, then its parts, how many they are, their types, what it gives");
        String two = " scene two(a: int, b: int) {}";
        checks.faulty(2, in("two(p, ^zz);") + two);
        checks.faulty(3, in("two(p, -^p);") + two);
        checks.faulty(3, in("^two(p);") + two);
        checks.faulty(3, in("two(^p, p);") + two);
        checks.faulty(3, in("say two(^p, 1);") + two);
        checks.faulty(3, in("say ^two(1, 1);") + two);
        checks.sentence("Of the types of parts and of the whole of a PATH's step, those of the part ahead first.");
        checks.faulty(3, in("say ^p[p];"));
        checks.faulty(3, in("say ^p[zz];"));
        checks.faulty(3, in("say ^p[-p];"));
        checks.faulty(3, in("say ^n[p[zz]];"));
        checks.faulty(3, in("^p.first()[zz.age] = yy;"));
        checks.faulty(2, in("p = r[^zz];"));
        checks.faulty(3, in("p = r[-^p];"));
        checks.faulty(2, in("p = ^zz[yy];"));
        checks.faulty(3, in("say r[^p];"));
        checks.faulty(3, in("say ^r[n];"));
        checks.faulty(3, in("^p[p] = n;"));
    }

    /** The whole if with its else if is one STATEMENT. */
    private static void fuelOfElseIf(Checks checks) {
        checks.sentence("FUEL: one for each STATEMENT that begins");
        PromptBook book = checks.sound("scene main(k: int) { if (k == 0) { say 0; } else if (k == 1) { say 1; } else if (k == 2) { say "
            + "2; } else { say 3; } }");
        for (int k = 0; k < 4; k++) {
            checks.due("play of " + k, book.play(0, k, 0, 2), 0);
            checks.due("FUEL left of " + k, book.about(4), 0);
            checks.due("SAID of " + k, Checks.said(book), Integer.toString(k));
        }
    }

    /** The [ of new row is one of its BASE: a PATH's steps are fields, calls and items. */
    private static void stepsOfNewRow(Checks checks) {
        checks.sentence("a . or [ that is the ninth of a PATH.");
        checks.sound(in("p = new row[1][0]" + ".master".repeat(7) + ";"));
        checks.faulty(4, in("p = new row[1][0]" + ".master".repeat(7) + "^.master;"));
        checks.sound(in("p = p.row[0]" + ".master".repeat(6) + ";"));
        checks.faulty(4, in("p = p.row[0]" + ".master".repeat(6) + "^.master;"));
    }

    /** All are counted, the first 2,000 kept. */
    private static void manySaid(Checks checks) {
        checks.sentence("5 how many numbers were SAID.");
        PromptBook book = checks.sound("scene main(n: int) { while (n > 0) { say n; n = n - 1; } }");
        for (int count : new int[] {1999, 2000, 2001, 6000}) {
            book.play(0, count, 0, 20000);
            checks.due("about(5) of " + count, book.about(5), count);
            checks.due("said(1998) of " + count, Checks.saidOf(book, 1998), Integer.toString(count - 1998));
            checks.due("said(2000) of " + count, Checks.saidOf(book, 2000), Checks.THROWS_NO_SUCH);
        }
    }

    /** Ten times the number that is 1 more than the least STAGE: so STAGE 0 is told from none. */
    private static void fieldWithStage(Checks checks) {
        checks.sentence("and ten times as much as the least STAGE that has that thing, 1 more (nothing more without such a STAGE).");
        PromptBook book = checks.sound("stage a: puppet; stage b: row; stage c: puppet; scene main() { a = new singer; c = new walker; b "
            + "= new row[4]; "
            + "b[0] = a; b[1] = c; b[2] = new singer; a.row = b; a.master = c; c.master = a; }");
        book.play(0, 0, 0, 50);
        int[] items = {14, 35, 4, 0};
        for (int f = 0; f < items.length; f++) {
            checks.due("item " + f, book.field(1, f), items[f]);
        }
        checks.due("a.row", book.field(0, 4), 26);
        checks.due("a.master", book.field(0, 2), 35);
        checks.due("c.master", book.field(2, 2), 14);
    }
}
