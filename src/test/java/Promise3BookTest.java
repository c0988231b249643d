/** Promise 3: book takes the first n bytes; what it leaves as it is when it throws. */
public final class Promise3BookTest {
    public static void main(String[] args) {
        Checks checks = new Checks("promise 3, book");
        counts(checks);
        keeps(checks);
        takesAfresh(checks);
        checks.end();
    }

    private static void counts(Checks checks) {
        PromptBook book = new PromptBook();
        checks.due("no SCENES", Checks.take(book, "stage a: int;"), "0");
        checks.due("SCENES, not ACTS", Checks.take(book, "scene a() {} act prop b() {} scene c(): row { }"), "2");
        checks.due("blanks alone", Checks.take(book, " \n "), "0");
        Checks.feed(book, "scene a() {} scene b() {}");
        checks.due("the first bytes alone", Checks.bookOf(book, 12), "1");
        checks.due("the tape is empty then", book.feed(0, 0, 0, 0, 0), 20);
    }

    private static void keeps(Checks checks) {
        PromptBook book = new PromptBook();
        Checks.take(book, "stage a: int; scene s() { a = 7; say 3; }");
        book.play(0, 0, 0, 9);
        Checks.feed(book, "scene b() { }");
        checks.due("book(-1)", Checks.bookOf(book, -1), Checks.THROWS_ILLEGAL);
        checks.due("book(21)", Checks.bookOf(book, 21), Checks.THROWS_ILLEGAL);
        checks.due("book(least)", Checks.bookOf(book, Integer.MIN_VALUE), Checks.THROWS_ILLEGAL);
        checks.due("fault(0) is of the latest with so many bytes", book.fault(0), 0);
        checks.due("the tape stays", book.feed(0, 0, 0, 0, 0), 40);
        checks.due("a FAULT", Checks.bookOf(book, 40), Checks.THROWS_ILLEGAL);
        checks.due("its kind", book.fault(0), 1);
        checks.due("its place", book.fault(1), 20);
        checks.due("no such n keeps it", Checks.bookOf(book, 4001), Checks.THROWS_ILLEGAL);
        checks.due("its kind still", book.fault(0), 1);
        checks.due("the tape is empty behind a FAULT", book.feed(0, 0, 0, 0, 0), 20);
        checks.due("STAGES stay", book.stage(0, 0), 7);
        checks.due("what was SAID stays", Checks.said(book), "3");
        checks.due("the book stays", book.play(0, 0, 0, 9), 0);
    }

    private static void takesAfresh(Checks checks) {
        PromptBook book = new PromptBook();
        String text = "stage a: int; stage p: prop; scene s() { a = a + 1; p = new prop; give; }";
        Checks.take(book, text);
        book.play(0, 0, 0, 9);
        book.play(0, 0, 0, 9);
        checks.due("a STAGE stays from play to play", book.stage(0, 0), 2);
        checks.due("and its thing", book.stage(1, 0), 1);
        Checks.take(book, text);
        checks.due("a STAGE is 0 when the book is taken", book.stage(0, 0), 0);
        checks.due("or nobody", book.stage(1, 0), 0);
        checks.due("things count through all books", book.about(6), 2);
        checks.due("the latest play is still told", book.about(0), 0);
        Checks.take(book, "stage p: prop;");
        checks.due("as many STAGES as the book has", book.stage(1, 0), -1);
        checks.due("no SCENES", book.play(0, 0, 0, 9), -1);
    }
}
