import java.util.Random;

/** Any arguments in any state: every call ends and answers, none throws, and the same calls answer the same again. */
public final class WildTest {
    private static final Check CHECK = new Check("WildTest");
    // With what brings the texts onto the tape they stay under the 512 calls that an object is used for.
    private static final int CALLS = 400;
    private static final String[] TEXTS = {"", "sock a 9; sock b 9; table 1; full few; seed 9999; lose = 9999*9999*9999;",
        "glove a 9 9; table 18; full back; line a a a a a a a a a right a right a right a right a;",
        "sock a 2;sock b 2;sock c 2;sock d 2;sock e 2;sock f 2;sock g 3;sock h 3;table 4;full many;near 99;like a b 0;line a h b g c f;",
        "glove a 3 2; glove b 2 3; glove c 4 0; glove d 0 4; near 50; like a b 1; like c d 50; like a d 20; like b c 4;",
        "sock a 5; lose = ((((((week-(0-1)/there)))))) / (lot - 50) * all; table 2;",
        "sock a 5; lose = (0-9999*9999*2147-4836*9999)*(0-1)/(0-1) / (week-1);"};

    public static void main(String[] args) {
        for (int run = 0; run < 300; run++) {
            long first = play(run);
            CHECK.due("run " + run + " once more", play(run), first);
        }
        CHECK.end();
    }

    private static int argument(Random random) {
        switch (random.nextInt(8)) {
            case 0: return Integer.MIN_VALUE + random.nextInt(2);
            case 1: return Integer.MAX_VALUE - random.nextInt(2);
            case 2: return random.nextInt();
            case 3: return random.nextInt(600) - 50;
            default: return random.nextInt(22) - 2;
        }
    }

    private static long play(int run) {
        Random random = new Random(run);
        SockTable x = new SockTable();
        long answers = 0;
        for (int i = 0; i < CALLS; i++) {
            if (i % 60 == run % 60) {
                Check.feed(x, TEXTS[random.nextInt(TEXTS.length)]);
            }
            answers = answers * 31 + call(x, random);
        }
        return answers;
    }

    private static long call(SockTable x, Random random) {
        int a = argument(random);
        int b = argument(random);
        int c = argument(random);
        int small = random.nextInt(8);
        switch (random.nextInt(31)) {
            case 0: return x.feed(a, b, c, a ^ b, random.nextInt());
            case 1: return x.back(a);
            case 2: return x.read();
            case 3: return x.place();
            case 4: return x.kind(a, b);
            case 5: return x.unlike(a, b);
            case 6: case 7: return x.draw(random.nextBoolean() ? a : small);
            case 8: case 9: return x.lot();
            case 10: return x.take(random.nextBoolean() ? a : small) ? 1 : 0;
            case 11: return x.undo() ? 1 : 0;
            case 12: return x.within(a);
            case 13: return x.lies(a);
            case 14: return x.mosts();
            case 15: return x.sure(a, b);
            case 16: return x.evening(a);
            case 17: return x.soonest(a, b);
            case 18: return x.line();
            case 19: return x.exchange(a);
            case 20: return x.odd(a);
            case 21: return x.lost(a, b, c);
            case 22: return x.years(a, b);
            case 23: return x.see(random.nextBoolean() ? a : small, b);
            case 24: return random.nextInt(9) == 0 ? x.forget() : 0;
            case 25: return x.rows(a, b);
            case 26: return x.span(a, b, c);
            case 27: return x.hold(a) ? 1 : 0;
            case 28: return x.restore(a) ? 1 : 0;
            case 29: return x.count(a);
            default: return x.place() * 3 + x.odd(small) + x.years(1 + small * 20, small % 3);
        }
    }
}
