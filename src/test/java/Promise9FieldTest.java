/** Promise 9: field tells a field of the thing that a STAGE has, or an item of its row. */
public final class Promise9FieldTest {
    public static void main(String[] args) {
        Checks checks = new Checks("promise 9");
        String head = "stage n: int; stage a: prop; stage l: lamp; stage p: puppet; stage s: singer; stage w: walker; stage r: row; "
            + "stage c: cue; stage x: speaker; ";
        PromptBook book = checks.sound(head + "scene fill() { a = new prop; a.weight = 11; a.owner = new walker; a.inside = a; "
            + "l = new lamp; l.light = 12; l.next = new lamp; p = new puppet; l.on = p; p.age = 13; p.held = a; p.lamp = l; "
            + "s = new singer; s.age = 14; s.pitch = 15; s.master = p; s.word = new cue(1); w = new walker; w.age = 16; w.pace = 17; "
            + "w.next = w; w.row = new row[2]; r = new row[5]; r[0] = s; r[1] = w; r[2] = new singer; r[4] = p; c = new cue(-18); "
            + "c.about = s; x = w; } scene more() { p.row = r; p.word = c; p.master = w; a.owner = nobody; w.held = new prop; w = nobody; }");
        for (int k = 0; k < 9; k++) {
            told(checks, book, k, "ahead of plays", new int[0]);
        }
        book.play(0, 0, 0, 100);
        told(checks, book, 0, "a number", new int[0]);
        told(checks, book, 1, "a prop", new int[] {11, 5, 21});
        told(checks, book, 2, "a lamp", new int[] {12, 2, 43});
        told(checks, book, 3, "a puppet", new int[] {13, 21, 0, 32, 0, 0});
        told(checks, book, 4, "a singer", new int[] {14, 0, 43, 0, 0, 7, 15});
        told(checks, book, 5, "a walker", new int[] {16, 0, 0, 0, 6, 0, 17, 65});
        told(checks, book, 6, "a row", new int[] {54, 65, 4, 0, 43});
        told(checks, book, 7, "a cue", new int[] {-18, 54});
        told(checks, book, 8, "by a ROLE", new int[] {16, 0, 0, 0, 6, 0, 17, 65});
        book.play(1, 0, 0, 100);
        told(checks, book, 1, "a prop then", new int[] {11, 0, 21});
        told(checks, book, 3, "a puppet then", new int[] {13, 21, 95, 32, 76, 87});
        told(checks, book, 5, "nobody then", new int[0]);
        told(checks, book, 8, "a walker then", new int[] {16, 1, 0, 0, 6, 0, 17, 95});
        checks.due("field(-1, 0)", book.field(-1, 0), -1);
        checks.due("field(9, 0)", book.field(9, 0), -1);
        checks.due("field(greatest, 0)", book.field(Integer.MAX_VALUE, 0), -1);
        checks.end();
    }

    private static void told(Checks checks, PromptBook book, int k, String when, int[] due) {
        for (int f = 0; f < due.length; f++) {
            checks.due("field(" + k + ", " + f + "), " + when, book.field(k, f), due[f]);
        }
        int[] others = {-1, due.length, due.length + 1, 1000, Integer.MAX_VALUE, Integer.MIN_VALUE};
        for (int f : others) {
            checks.due("field(" + k + ", " + f + "), " + when, book.field(k, f), -1);
        }
    }
}
