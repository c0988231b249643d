import java.util.Random;

/** All promises: no call throws anything but what the document names, and the same calls give the same answers. */
public final class RobustTest {
    private static final String[] TOKENS = ("int prop lamp puppet singer walker row cue speaker mover glower nobody stage scene act me var "
        + "say if else while give throw try lack always as is new a b c n p q r s w x age held master word pitch pace next weight owner "
        + "inside light on number about heft to go far glow lift ask shine many first shout line 0 1 2 12 13 999999999 1234567890 "
        + "abcdefghijklm ( ) { } [ ] , ; : . = == != < <= > >= + - * / % ! & | # @ A").split(" ");
    private static final String SEED_BOOK = "stage n : int ; stage p : puppet ; stage r : row ; stage a : prop ; stage x : speaker ; "
        + "scene s ( b : int , c : int ) : int { var w : walker = new walker ; p = w ; r = new row [ b ] ; r [ c ] = p ; "
        + "try { say p . lift ( ) + r [ 0 ] . age / c ; n = n + # r ; } lack ( 1 , 7 , 9 ) { say 1 ; } cue ( q ) { throw q ; } "
        + "always { x = w ; say x . line ( n ) ; } if ( n > 3 & b != 2 ) { give s ( b - 1 , c ) ; } else { while ( n < 5 ) { n = n + 1 ; } } "
        + "p . word = new cue ( n ) ; p . shout ( ) ; give - n ; } act puppet q ( z : row ) { me . row = z ; say me . many ( ) ; } "
        + "scene t ( ) { p = new singer ; p . q ( r ) ; a = new prop ; a . to ( p ) ; say ( p as singer ) . ask ( ) ; }";
    private static final int[] NUMBERS = {0, 1, 2, 3, 5, 8, 11, 12, 100, 1999, 2000, 20000, 20001, -1, -2, 4000, 4001,
        Integer.MAX_VALUE, Integer.MIN_VALUE};

    public static void main(String[] args) {
        Checks checks = new Checks("robustness");
        for (int seed = 1; seed <= 400; seed++) {
            String first = run(seed);
            checks.due("seed " + seed + " twice", run(seed), first);
            checks.due("seed " + seed + " throws " + first, first.contains("WRONG") ? 1 : 0, 0);
        }
        checks.end();
    }

    private static String run(int seed) {
        Random random = new Random(seed);
        PromptBook book = new PromptBook();
        StringBuilder answers = new StringBuilder();
        int calls = 0;
        while (calls < 400) {
            String text = text(random);
            Checks.feed(book, text);
            calls += text.length() / 20 + 1;
            for (int i = 0; i < 40; i++) {
                int call = i == 0 ? 1 : random.nextInt(8);
                answers.append(answer(book, call, random, i == 0 ? text.length() : number(random))).append(' ');
                calls++;
            }
        }
        return answers.toString();
    }

    private static String text(Random random) {
        String[] tokens = SEED_BOOK.split(" ");
        int changes = random.nextInt(4);
        for (int i = 0; i < changes; i++) {
            tokens[random.nextInt(tokens.length)] = TOKENS[random.nextInt(TOKENS.length)];
        }
        if (random.nextInt(5) == 0) {
            tokens = new String[1 + random.nextInt(60)];
            for (int i = 0; i < tokens.length; i++) {
                tokens[i] = TOKENS[random.nextInt(TOKENS.length)];
            }
        }
        String text = String.join(random.nextBoolean() ? " " : "\n", tokens);
        return random.nextInt(6) == 0 ? text.substring(0, random.nextInt(text.length())) : text;
    }

    private static int number(Random random) {
        return NUMBERS[random.nextInt(NUMBERS.length)];
    }

    private static String answer(PromptBook book, int call, Random random, int number) {
        int other = number(random);
        try {
            switch (call) {
                case 0: return "f" + book.fault(number);
                case 1: return "b" + book.book(number);
                case 2:
                case 3: return "p" + book.play(random.nextInt(3), other, number, random.nextInt(300));
                case 4: return "a" + book.about(random.nextBoolean() ? random.nextInt(9) : number);
                case 5: return "s" + book.said(number);
                case 6: return "t" + book.stage(random.nextInt(6), random.nextBoolean() ? random.nextInt(3) : number);
                default: return "d" + book.field(random.nextInt(6), random.nextBoolean() ? random.nextInt(8) : number);
            }
        } catch (RuntimeException thrown) {
            String name = thrown.getClass().getSimpleName();
            boolean due = call == 1 && name.equals("IllegalArgumentException") || call == 5 && name.equals("NoSuchElementException");
            return due ? name : "WRONG " + call + " " + thrown;
        }
    }
}
