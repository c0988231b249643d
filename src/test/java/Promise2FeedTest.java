/** Promise 2: feed puts twenty bytes on the tape, the highest of each number first, up to 4,000. */
public final class Promise2FeedTest {
    public static void main(String[] args) {
        Checks checks = new Checks("promise 2");
        PromptBook book = new PromptBook();
        // "scene a(){say 258;} " by numbers: the order of the bytes is that of the text.
        checks.due("feed", book.feed(0x7363656e, 0x65206128, 0x297b7361, 0x79203235, 0x383b7d20), 20);
        checks.due("book", Checks.bookOf(book, 20), "1");
        checks.due("play", book.play(0, 0, 0, 1), 0);
        checks.due("said", Checks.said(book), "258");
        // Bytes above 127 are no tokens, wherever in a number they stand.
        for (int at = 0; at < 4; at++) {
            int number = 0x20202020 ^ 0xa0 << 24 - 8 * at;
            book.feed(0x20202020, number, 0x20202020, 0x20202020, 0x20202020);
            checks.due("book with a wrong byte", Checks.bookOf(book, 20), Checks.THROWS_ILLEGAL);
            checks.due("its place", book.fault(1), 4 + at);
        }
        PromptBook full = new PromptBook();
        for (int i = 1; i <= 200; i++) {
            checks.due("feed " + i, full.feed(0x20202020, 0x20202020, 0x20202020, 0x20202020, 0x20202020), 20 * i);
        }
        checks.due("feed 201", full.feed(0, 0, 0, 0, 0), -1);
        checks.due("feed 202", full.feed(1, 1, 1, 1, 1), -1);
        checks.due("book(4001)", Checks.bookOf(full, 4001), Checks.THROWS_ILLEGAL);
        checks.due("book(4000)", Checks.bookOf(full, 4000), "0");
        checks.due("feed behind a book", full.feed(0, 0, 0, 0, 0), 20);
        checks.end();
    }
}
