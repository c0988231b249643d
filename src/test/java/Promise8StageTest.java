/** Promise 8: stage tells a STAGE's number or what it has, the least STAGE with the same thing, a row's items. */
public final class Promise8StageTest {
    public static void main(String[] args) {
        Checks checks = new Checks("promise 8");
        PromptBook book = checks.sound("stage n: int; stage a: prop; stage l: lamp; stage p: puppet; stage s: singer; stage w: walker; "
            + "stage r: row; stage c: cue; stage x: speaker; stage m: mover; stage g: glower; stage q: puppet; "
            + "scene fill() { n = -5; a = new prop; l = new lamp; p = new puppet; s = new singer; w = new walker; r = new row[3]; "
            + "c = new cue(4); x = w; m = a; g = s; q = w; } scene swap() { p = s; q = new singer; r = new row[0]; n = 3; } "
            + "scene clear() { a = nobody; r = nobody; m = nobody; }");
        told(checks, book, "ahead of plays", 0, new int[12]);
        told(checks, book, "ahead of plays", 1, new int[] {0, 1, 2, 3, 4, 5, 6, 7, 8, 9, 10, 11});
        told(checks, book, "ahead of plays", 2, new int[12]);
        book.play(0, 0, 0, 100);
        told(checks, book, "filled", 0, new int[] {-5, 1, 2, 3, 4, 5, 6, 7, 5, 1, 4, 5});
        told(checks, book, "filled", 1, new int[] {0, 1, 2, 3, 4, 5, 6, 7, 5, 1, 4, 5});
        told(checks, book, "filled", 2, new int[] {0, 0, 0, 0, 0, 0, 3, 0, 0, 0, 0, 0});
        book.play(1, 0, 0, 100);
        told(checks, book, "swapped", 0, new int[] {3, 1, 2, 4, 4, 5, 6, 7, 5, 1, 4, 4});
        told(checks, book, "swapped", 1, new int[] {0, 1, 2, 3, 3, 5, 6, 7, 5, 1, 3, 11});
        told(checks, book, "swapped", 2, new int[12]);
        book.play(2, 0, 0, 100);
        told(checks, book, "cleared", 0, new int[] {3, 0, 2, 4, 4, 5, 0, 7, 5, 0, 4, 4});
        told(checks, book, "cleared", 1, new int[] {0, 1, 2, 3, 3, 5, 6, 7, 5, 9, 3, 11});
        int[] others = {-1, 12, Integer.MAX_VALUE, Integer.MIN_VALUE};
        for (int other : others) {
            checks.due("stage(" + other + ", 0)", book.stage(other, 0), -1);
            checks.due("stage(" + other + ", 1)", book.stage(other, 1), -1);
            checks.due("stage(0, " + (other + 3) + ")", book.stage(0, other == 12 ? 3 : other), -1);
        }
        checks.due("stage(1, 3)", book.stage(1, 3), -1);
        checks.end();
    }

    private static void told(Checks checks, PromptBook book, String when, int what, int[] due) {
        for (int k = 0; k < due.length; k++) {
            checks.due("stage(" + k + ", " + what + "), " + when, book.stage(k, what), due[k]);
        }
    }
}
