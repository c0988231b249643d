/** Promise 7: said tells the numbers of the latest play, the first 2,000 of them. */
public final class Promise7SaidTest {
    public static void main(String[] args) {
        Checks checks = new Checks("promise 7");
        PromptBook book = checks.sound("scene a(n: int) { var i: int = 0; while (i < n) { say 5 - i; i = i + 1; } } scene b() { } "
            + "scene c() { say 7; say 1 / 0; }");
        book.play(0, 3, 0, 100);
        checks.due("said(0)", Checks.saidOf(book, 0), "5");
        checks.due("said(2)", Checks.saidOf(book, 2), "3");
        checks.due("said(3)", Checks.saidOf(book, 3), Checks.THROWS_NO_SUCH);
        checks.due("said(-1)", Checks.saidOf(book, -1), Checks.THROWS_NO_SUCH);
        checks.due("said(greatest)", Checks.saidOf(book, Integer.MAX_VALUE), Checks.THROWS_NO_SUCH);
        book.play(9, 0, 0, 100);
        checks.due("said(0) behind NONE", Checks.saidOf(book, 0), "5");
        book.play(2, 0, 0, 100);
        checks.due("said(0) behind an UPSET", Checks.saidOf(book, 0), "7");
        checks.due("said(1) behind an UPSET", Checks.saidOf(book, 1), Checks.THROWS_NO_SUCH);
        book.play(1, 0, 0, 100);
        checks.due("said(0) of nothing", Checks.saidOf(book, 0), Checks.THROWS_NO_SUCH);
        book.play(0, 2000, 0, 20000);
        checks.due("said(1999) of 2,000", Checks.saidOf(book, 1999), "-1994");
        checks.due("said(2000) of 2,000", Checks.saidOf(book, 2000), Checks.THROWS_NO_SUCH);
        book.play(0, 2001, 0, 20000);
        checks.due("about(5) of 2,001", book.about(5), 2001);
        checks.due("said(1999) of 2,001", Checks.saidOf(book, 1999), "-1994");
        checks.due("said(2000) of 2,001", Checks.saidOf(book, 2000), Checks.THROWS_NO_SUCH);
        book.play(0, 1, 0, 20000);
        checks.due("said(0) of one", Checks.saidOf(book, 0), "5");
        checks.due("said(1) of one", Checks.saidOf(book, 1), Checks.THROWS_NO_SUCH);
        checks.end();
    }
}
