/** Promise 4: fault tells of the latest book() that had as many bytes as told. */
public final class Promise4FaultTest {
    public static void main(String[] args) {
        Checks checks = new Checks("promise 4");
        PromptBook book = new PromptBook();
        told(checks, book, "ahead of any", 0, -1);
        Checks.take(book, "scene a() { say nothing; }");
        told(checks, book, "a name", 2, 16);
        Checks.bookOf(book, 1);
        told(checks, book, "n too great", 2, 16);
        Checks.bookOf(book, -1);
        told(checks, book, "n below 0", 2, 16);
        Checks.take(book, "scene a() { say nobody; }");
        told(checks, book, "a type", 3, 16);
        Checks.take(book, "scene a() { say 1; ");
        told(checks, book, "too short", 1, 19);
        Checks.take(book, "scene abcdefghijklmnop() { say 1; ");
        told(checks, book, "too long", 4, 6);
        Checks.take(book, "scene a() { say 1; }");
        told(checks, book, "none", 0, -1);
        Checks.bookOf(book, 0);
        told(checks, book, "an empty one", 0, -1);
        Checks.take(book, "?");
        told(checks, book, "no token", 1, 0);
        checks.end();
    }

    private static void told(Checks checks, PromptBook book, String what, int kind, int place) {
        checks.due("fault(0), " + what, book.fault(0), kind);
        checks.due("fault(1), " + what, book.fault(1), place);
        checks.due("fault(2), " + what, book.fault(2), -1);
        checks.due("fault(-1), " + what, book.fault(-1), -1);
    }
}
