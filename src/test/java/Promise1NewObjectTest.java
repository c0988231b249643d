/** Promise 1: a new object has no book, an empty tape, and nothing SAID. */
public final class Promise1NewObjectTest {
    public static void main(String[] args) {
        Checks checks = new Checks("promise 1");
        PromptBook book = new PromptBook();
        checks.due("NONE", PromptBook.NONE, -1);
        checks.due("play(0)", book.play(0, 0, 0, 5), -1);
        checks.due("fault(0)", book.fault(0), 0);
        checks.due("fault(1)", book.fault(1), -1);
        int[] due = {-1, 0, -1, 0, 0, 0, 0, 0, 0, -1};
        for (int what = 0; what < due.length; what++) {
            checks.due("about(" + what + ")", book.about(what), due[what]);
        }
        checks.due("said(0)", Checks.saidOf(book, 0), Checks.THROWS_NO_SUCH);
        checks.due("stage(0, 0)", book.stage(0, 0), -1);
        checks.due("field(0, 0)", book.field(0, 0), -1);
        checks.due("book(1) of an empty tape", Checks.bookOf(book, 1), Checks.THROWS_ILLEGAL);
        checks.due("book(0) of an empty tape", Checks.bookOf(book, 0), "0");
        checks.due("first feed", new PromptBook().feed(0, 0, 0, 0, 0), 20);
        checks.end();
    }
}
