/** Promise 6: about tells of the latest play() that was not NONE, and of all. */
public final class Promise6AboutTest {
    public static void main(String[] args) {
        Checks checks = new Checks("promise 6");
        String text = "stage p: puppet; scene ends(a: int): int { say a; say a; give a * 2; } scene thing(): prop "
            + "{ give new prop; } scene upset(a: int): int { say 1; give a / 0; } scene cues(a: int): int { throw new cue(a); } "
            + "scene quiet() { } scene loop(): int { while (1) { } give 1; } scene deep(): int { give deep(); } "
            + "scene rows(a: int) { var r: row = new row[a]; r = new row[a]; }";
        int divided = text.indexOf("/ 0");
        int thrown = text.indexOf("throw");
        int sized = text.indexOf("new row");
        PromptBook book = checks.sound(text);
        told(checks, book, "ahead of any", new int[] {-1, 0, -1, 0, 0, 0, 0, 0, 0});
        book.play(0, 21, 0, 10);
        told(checks, book, "an end", new int[] {0, 0, -1, 42, 7, 2, 0, 0, 0});
        book.play(0, -21, 0, -1);
        book.play(8, 0, 0, 5);
        told(checks, book, "NONE changes nothing", new int[] {0, 0, -1, 42, 7, 2, 0, 0, 0});
        book.play(1, 0, 0, 10);
        told(checks, book, "a thing given", new int[] {0, 0, -1, 0, 9, 0, 1, 0, 0});
        book.play(2, 7, 0, 10);
        told(checks, book, "an UPSET", new int[] {1, 11, divided, 0, 8, 1, 1, 0, 1});
        book.play(3, 70, 0, 10);
        told(checks, book, "a CUE", new int[] {2, 70, thrown, 0, 9, 0, 2, 0, 1});
        book.play(3, 0, 0, 10);
        told(checks, book, "a CUE of 0", new int[] {2, 0, thrown, 0, 9, 0, 3, 0, 1});
        book.play(4, 0, 0, 10);
        told(checks, book, "no TYPE", new int[] {0, 0, -1, 0, 10, 0, 3, 0, 1});
        book.play(5, 0, 0, 10);
        told(checks, book, "FUEL", new int[] {3, 0, -1, 0, 0, 0, 3, 0, 1});
        book.play(6, 0, 0, 100);
        told(checks, book, "DEEP", new int[] {4, 0, -1, 0, 68, 0, 3, 0, 1});
        book.play(7, 900, 0, 10);
        told(checks, book, "rows", new int[] {0, 0, -1, 0, 8, 0, 5, 1800, 1});
        book.play(7, -1, 0, 10);
        told(checks, book, "SIZE", new int[] {1, 12, sized, 0, 9, 0, 5, 1800, 2});
        PromptBook caught = checks.plays("scene main(): int { try { say 1 / 0; } lack (11) { } try { throw new cue(4); } cue (a) { } "
            + "give 6; }", 0, 0, "");
        told(checks, caught, "caught", new int[] {0, 0, -1, 6, 995, 0, 1, 0, 1});
        checks.end();
    }

    private static void told(Checks checks, PromptBook book, String when, int[] due) {
        for (int what = 0; what < due.length; what++) {
            checks.due("about(" + what + "), " + when, book.about(what), due[what]);
        }
        checks.due("about(9), " + when, book.about(9), -1);
        checks.due("about(-1), " + when, book.about(-1), -1);
    }
}
