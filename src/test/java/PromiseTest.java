/** Each promise from 1 to 29 by hand: ordinary inputs, edges and wrong inputs (2 to 5 are FaultTest's). */
public final class PromiseTest {
    private static final Check CHECK = new Check("PromiseTest");
    private static final int MIN = Integer.MIN_VALUE;
    private static final int MAX = Integer.MAX_VALUE;
    private static final String TWO_AND_GLOVE = "sock a 3; glove g 2 2; sock b 3; seed 1234; table 2; full ";

    public static void main(String[] args) {
        newObject();
        kind();
        unlike();
        draw();
        full();
        lot();
        take();
        undo();
        orders();
        sure();
        evening();
        soonest();
        lineAndExchange();
        odd();
        lost();
        years();
        lawOfLose();
        seen();
        spans();
        holdAndRestore();
        stopIsHeld();
        count();
        dearest();
        CHECK.end();
    }

    private static void newObject() {
        SockTable x = new SockTable();
        int[] counts = {0, 0, 0, 0, 0, 0, 18, 1, 0, 0, 0, 0, 0, 0, 0, -1};
        for (int i = 0; i < counts.length; i++) {
            CHECK.due("count(" + i + ") of a new one", x.count(i), counts[i]);
        }
        CHECK.due("place()", x.place(), -1);
        CHECK.due("hold(2)", x.hold(2), true);
        CHECK.due("restore(2)", x.restore(2), true);
        CHECK.due("NONE", SockTable.NONE, -1);
    }

    private static void kind() {
        SockTable x = Check.told("sock a 3; glove g 2 1;");
        int[][] due = {{3, 0, 3, 0, 0, 0}, {2, 0, 2, 2, 0, 1}, {1, 0, 1, 1, 0, 1}};
        kinds(x, due);
        x.draw(0);
        x.draw(0);
        x.draw(1);
        x.draw(1);
        x.draw(2);
        kinds(x, new int[][] {{1, 0, 3, 0, 1, 0}, {0, 1, 2, 2, 1, 1}, {0, 0, 1, 1, 1, 1}});
        for (int wrong : new int[] {-1, 3, 8, MIN, MAX}) {
            CHECK.due("kind(" + wrong + ", 0)", x.kind(wrong, 0), -1);
        }
        for (int wrong : new int[] {-1, 6, MIN, MAX}) {
            CHECK.due("kind(0, " + wrong + ")", x.kind(0, wrong), -1);
        }
    }

    private static void kinds(SockTable x, int[][] due) {
        for (int i = 0; i < due.length; i++) {
            for (int j = 0; j < due[i].length; j++) {
                CHECK.due("kind(" + i + ", " + j + ")", x.kind(i, j), due[i][j]);
            }
        }
    }

    private static void unlike() {
        SockTable x = Check.told("sock a 1; glove g 1 1; sock b 1; like a b 5; like b a 7; like g a 0; near 3;");
        int[][] due = {{0, 0, 7}, {0, 0, 100}, {7, 100, 0}};
        for (int i = 0; i < 3; i++) {
            for (int j = 0; j < 3; j++) {
                CHECK.due("unlike(" + i + ", " + j + ")", x.unlike(i, j), due[i][j]);
            }
        }
        for (int wrong : new int[] {-1, 3, 8, MIN, MAX}) {
            CHECK.due("unlike(0, " + wrong + ")", x.unlike(0, wrong), -1);
            CHECK.due("unlike(" + wrong + ", 0)", x.unlike(wrong, 0), -1);
        }
        CHECK.due("the last one told, of itself too", Check.told("sock a 1; like a a 5;").unlike(0, 0), 5);
    }

    private static void draw() {
        SockTable x = Check.told("sock a 2; glove g 2 1; sock b 0; table 2; full back;");
        CHECK.due("draw(-1)", x.draw(-1), -1);
        CHECK.due("draw(4)", x.draw(4), -1);
        CHECK.due("draw(MIN)", x.draw(MIN), -1);
        CHECK.due("draw(MAX)", x.draw(MAX), -1);
        CHECK.due("none of it", x.draw(3), -1);
        CHECK.due("count(8)", x.count(8), 0);
        CHECK.due("left", x.draw(1), 0);
        CHECK.due("left", x.draw(1), 0);
        CHECK.due("no left one any more", x.draw(1), -1);
        CHECK.due("full", x.draw(0), 2);
        CHECK.due("it went back", x.kind(0, 0), 2);
        CHECK.due("right", x.draw(2), 1);
        CHECK.due("one left one lies there", x.kind(1, 1), 1);
        CHECK.due("sock", x.draw(0), 0);
        CHECK.due("rolled though full", x.draw(0), 1);
        CHECK.due("count(5)", x.count(5), 2);
        CHECK.due("count(8)", x.count(8), 6);
        CHECK.due("count(3)", x.count(3), 0);
    }

    private static void full() {
        SockTable x = Check.told("sock a 2; sock b 2; table 1; full stop;");
        x.draw(0);
        CHECK.due("stop", x.draw(1), 2);
        CHECK.due("nothing can be drawn", x.draw(0), 3);
        CHECK.due("looked at first", x.draw(7), -1);
        CHECK.due("lot()", x.lot(), 3);
        CHECK.due("count(8)", x.count(8), 2);
        CHECK.due("count(12)", x.count(12), 2);
        x.undo();
        CHECK.due("undone", x.draw(0), 1);

        x = Check.told("sock a 4; sock b 2; sock c 3; sock d 1; table 3; full few;");
        x.draw(0);
        x.draw(1);
        x.draw(2);
        CHECK.due("few", x.draw(3), 2);
        CHECK.due("b is back", x.kind(1, 0), 2);
        CHECK.due("d lies there", x.kind(3, 1), 1);
        CHECK.due("few", x.draw(1), 2);
        CHECK.due("d is back", x.kind(3, 0), 1);

        x = Check.told("sock a 3; sock b 2; sock c 3; sock d 1; table 3; full many;");
        x.draw(0);
        x.draw(1);
        x.draw(2);
        CHECK.due("many", x.draw(3), 2);
        CHECK.due("a, the first of two, is back", x.kind(0, 0), 3);
        CHECK.due("c stays", x.kind(2, 1), 1);

        x = Check.told("glove g 3 1; glove h 1 2; table 2; full few;");
        x.draw(0);
        x.draw(2);
        CHECK.due("the partners count", x.draw(0), 2);
        CHECK.due("g", x.kind(0, 1), 2 - 1);
        CHECK.due("h", x.kind(2, 1), 1);
        CHECK.due("g is as before", x.kind(0, 0), 2);

        x = Check.told("sock a 2; sock b 2; sock c 2; table 2; full few;");
        x.draw(1);
        x.draw(2);
        CHECK.due("alike", x.draw(0), 2);
        CHECK.due("the first goes", x.kind(1, 1), 0);

        x = Check.told("sock a 2; glove g 2 2; table 2; full many;");
        x.draw(0);
        x.draw(1);
        CHECK.due("that which was drawn is not in the bag", x.draw(1), 2);
        CHECK.due("g's right ones are more", x.kind(1, 1), 1);
        CHECK.due("a stays", x.kind(0, 1), 1);
    }

    private static void lots(SockTable x, int... due) {
        for (int i = 0; i < due.length; i++) {
            CHECK.due("lot() " + i, x.lot(), due[i]);
        }
    }

    private static void lot() {
        CHECK.due("an empty bag", new SockTable().lot(), -2);
        SockTable x = Check.told(TWO_AND_GLOVE + "back;");
        lots(x, 20, 0, 22, 32, 32, 32, 11, 30, 12, 12, 12, 22, 31, 20, 1, 0, 32, 11, 30, -2, -2);
        CHECK.due("count(8)", x.count(8), 19);
        CHECK.due("count(12)", x.count(12), 19);
        lots(Check.told(TWO_AND_GLOVE + "stop;"), 20, 0, 22, 3, 3);
        lots(Check.told(TWO_AND_GLOVE + "few;"), 20, 0, 22, 32, 22, 31, 0, 11, 1, 20, 30, 11, 0, -2);
        lots(Check.told("sock a 3; glove g 2 2; sock b 3; seed 7; table 1; full many;"),
            30, 12, 32, 12, 32, 12, 21, 30, 31, 30, 22, 2, 1, 0, 12, 32);
        x = Check.told(TWO_AND_GLOVE + "back;");
        x.draw(2);
        lots(x, 0, 22, 32);
        x.undo();
        x.undo();
        lots(x, 22, 32, 32, 32, 11);
    }

    private static void take() {
        SockTable x = Check.told("sock a 2; sock b 2; table 1; full stop;");
        CHECK.due("take(0)", x.take(0), false);
        for (int wrong : new int[] {-1, 2, MIN, MAX}) {
            CHECK.due("take(" + wrong + ")", x.take(wrong), false);
        }
        x.draw(0);
        x.draw(1);
        CHECK.due("stopped", x.draw(0), 3);
        CHECK.due("take(1)", x.take(1), false);
        CHECK.due("still stopped", x.draw(0), 3);
        CHECK.due("take(0)", x.take(0), true);
        CHECK.due("count(8) stays", x.count(8), 2);
        CHECK.due("count(4)", x.count(4), 0);
        CHECK.due("count(3)", x.count(3), 4);
        CHECK.due("it goes on", x.draw(1), 0);
        x.undo();
        x.undo();
        CHECK.due("stopped as before take", x.draw(0), 3);
        x.undo();
        CHECK.due("as before it stopped", x.draw(0), 1);
    }

    private static void undo() {
        SockTable x = Check.told("sock a 9; sock b 9;");
        CHECK.due("nothing to undo", x.undo(), false);
        x.draw(5);
        x.take(0);
        CHECK.due("nothing was done", x.count(12), 0);
        for (int i = 0; i < 45; i++) {
            CHECK.due("draw or take " + i, i % 2 == 0 ? x.draw(0) : x.take(0) ? 1 : 0, i % 2);
        }
        CHECK.due("count(12)", x.count(12), 40);
        for (int i = 0; i < 7; i++) {
            CHECK.due("undo", x.undo(), true);
        }
        CHECK.due("count(12)", x.count(12), 33);
        CHECK.due("count(8)", x.count(8), 19);
        CHECK.due("lot", x.lot() % 10, 0);
        for (int i = 0; i < 34; i++) {
            CHECK.due("undo", x.undo(), true);
        }
        CHECK.due("no more", x.undo(), false);
        CHECK.due("five are done for good", x.count(8), 3);
        CHECK.due("one lies there", x.kind(0, 1), 1);
        x = Check.told("glove g 1 1;");
        x.draw(0);
        x.draw(1);
        x.undo();
        CHECK.due("not rolled any more", x.count(5), 0);
        CHECK.due("it lies there", x.kind(0, 1), 1);
        CHECK.due("it is in the bag", x.kind(1, 0), 1);
    }

    private static void orders() {
        SockTable x = Check.told("sock a 1; glove g 1 1; table 1; full stop;");
        long[] within = {0, 2, 6, 6};
        for (int t = 0; t < within.length; t++) {
            CHECK.due("within(" + t + ")", x.within(t), within[t]);
        }
        long[] lies = {0, 6, 8, 6};
        for (int k = 0; k < lies.length; k++) {
            CHECK.due("lies(" + k + ")", x.lies(k), lies[k]);
        }
        CHECK.due("mosts()", x.mosts(), 2 * 1 + 4 * 2);
        x = Check.told("glove g 1 1;");
        CHECK.due("within(1)", x.within(1), 2);
        CHECK.due("mosts()", x.mosts(), 2);
        x.draw(0);
        CHECK.due("behind 0 draws it is not looked at", x.within(0), 1);
        CHECK.due("lies(0)", x.lies(0), 1);
        CHECK.due("lies(1)", x.lies(1), 0);
        CHECK.due("mosts()", x.mosts(), 0);
        x.draw(1);
        CHECK.due("an empty bag", x.within(0), 1);
        x = Check.told("sock a 1; sock b 1;");
        x.draw(0);
        x.draw(1);
        CHECK.due("an empty bag, two on the table", x.within(0), 1);
        CHECK.due("lies(0)", x.lies(0), 2);
        CHECK.due("0 draws", x.mosts(), 0);
        for (int wrong : new int[] {-1, 19, MIN, MAX}) {
            CHECK.due("within(" + wrong + ")", x.within(wrong), -1);
        }
        for (int wrong : new int[] {-1, 1, MIN, MAX}) {
            CHECK.due("lies(" + wrong + ")", x.lies(wrong), -1);
        }
        x = Check.told("glove g 9 9;");
        CHECK.due("18!", x.within(18), 6402373705728000L);
        CHECK.due("within(9)", x.within(9), 6402373705728000L);
        CHECK.due("within(8)", x.within(8), 6402373705728000L - 2 * 362880L * 362880L);
        CHECK.due("within(1)", x.within(1), 512L * 362880L * 362880L);
        CHECK.due("lies(18)", x.lies(18), 0);
        CHECK.due("lies(17)", x.lies(17), 6402373705728000L);
        CHECK.due("lies(1)", x.lies(1), 6402373705728000L);
        x = Check.told("glove g 9 0; glove h 9 0;");
        CHECK.due("all lie there", x.mosts(), 18 * 6402373705728000L);
        CHECK.due("lies(18)", x.lies(18), 18 * 6402373705728000L);
        CHECK.due("within(17)", x.within(17), 0);
        CHECK.due("sure(99, 99)", x.sure(99, 99), 18);
        CHECK.due("sure(1, 99)", x.sure(1, 99), 18);
    }

    private static void sure() {
        SockTable x = Check.told("sock a 2; sock b 2;");
        CHECK.due("just a third", x.sure(1, 3), 1);
        CHECK.due("just a third", x.sure(33, 99), 1);
        CHECK.due("more than a third", x.sure(34, 99), 2);
        CHECK.due("nothing asked", x.sure(0, 1), 0);
        int[][] wrong = {{0, 0}, {-1, 5}, {6, 5}, {1, 100}, {1, -1}, {MIN, MIN}, {MAX, MAX}, {0, MIN}};
        for (int[] pair : wrong) {
            CHECK.due("sure(" + pair[0] + ", " + pair[1] + ")", x.sure(pair[0], pair[1]), -1);
        }
        CHECK.due("an empty bag", new SockTable().sure(99, 99), 0);
    }

    private static void evening() {
        SockTable x = Check.told(TWO_AND_GLOVE + "back;");
        CHECK.due("evening(500)", x.evening(500), 19);
        CHECK.due("evening(19)", x.evening(19), 19);
        CHECK.due("evening(18)", x.evening(18), 18);
        CHECK.due("evening(1)", x.evening(1), 1);
        CHECK.due("nothing is done", x.count(8), 0);
        lots(x, 20, 0, 22, 32);
        CHECK.due("from now on", x.evening(500), 15);
        CHECK.due("count(12)", x.count(12), 4);
        CHECK.due("stop", Check.told(TWO_AND_GLOVE + "stop;").evening(500), 3);
        CHECK.due("many", Check.told("sock a 3; glove g 2 2; sock b 3; seed 7; table 1; full many;").evening(500), 500);
        for (int wrong : new int[] {0, -1, 501, MIN, MAX}) {
            CHECK.due("evening(" + wrong + ")", x.evening(wrong), -1);
        }
    }

    private static void soonest() {
        SockTable x = Check.told(TWO_AND_GLOVE + "stop;");
        int[][] due = {{1, 0, 10}, {5, 2, 59}, {30, 2, 379}};
        for (int[] one : due) {
            CHECK.due("soonest(" + one[0] + ", 0)", x.soonest(one[0], 0), one[1]);
            CHECK.due("soonest(" + one[0] + ", 1)", x.soonest(one[0], 1), one[2]);
        }
        SockTable y = Check.told("sock a 2; sock b 1; sock c 4; table 2; full few; seed 99;");
        CHECK.due("many is best", y.soonest(3, 0), 3);
        CHECK.due("its sum", y.soonest(3, 1), 29);
        int[][] wrong = {{0, 0}, {-1, 0}, {31, 1}, {5, 2}, {5, -1}, {MIN, 0}, {MAX, 1}, {5, MIN}, {5, MAX}};
        for (int[] pair : wrong) {
            CHECK.due("soonest(" + pair[0] + ", " + pair[1] + ")", x.soonest(pair[0], pair[1]), -1);
        }
        x = Check.told("sock a 2; sock b 2; table 1; full stop;");
        x.draw(0);
        x.draw(1);
        CHECK.due("nothing can be drawn now, whatever FULL is", x.soonest(3, 0), 0);
        CHECK.due("each counts as 500", x.soonest(3, 1), 1500);
    }

    private static void lineAndExchange() {
        SockTable x = Check.told("sock a 4; sock b 2; glove g 2 2; line a b a b;");
        CHECK.due("line()", x.line(), 2);
        CHECK.due("exchange(0): b b a a before a a b b", x.exchange(0), 3);
        CHECK.due("exchange(1)", x.exchange(1), 1);
        Check.read(x, "sock a 4; sock b 2; line a b b a;");
        CHECK.due("line()", x.line(), 2);
        CHECK.due("exchange(0)", x.exchange(0), 2);
        Check.read(x, "sock a 4; glove g 2 2; line g g right g right g a;");
        CHECK.due("line() from its last one", x.line(), 3);
        CHECK.due("exchange(0)", x.exchange(0), 4);
        CHECK.due("exchange(1)", x.exchange(1), 1);
        Check.read(x, "glove g 2 2; line g g right g right g;");
        CHECK.due("line()", x.line(), 2);
        CHECK.due("exchange(0)", x.exchange(0), 2);
        CHECK.due("exchange(1)", x.exchange(1), 1);
        Check.read(x, "sock a 4; sock b 2; sock c 2; sock d 3; line a d d a b c c d a a b;");
        CHECK.due("line()", x.line(), 3);
        CHECK.due("exchange(0)", x.exchange(0), 206);
        CHECK.due("exchange(1)", x.exchange(1), 2);
        Check.read(x, "sock a 9;line a;");
        CHECK.due("line()", x.line(), 1);
        CHECK.due("exchange(0)", x.exchange(0), -2);
        CHECK.due("exchange(1)", x.exchange(1), 1);
        for (int wrong : new int[] {-1, 2, MIN, MAX}) {
            CHECK.due("exchange(" + wrong + ")", x.exchange(wrong), -1);
        }
    }

    private static void odd() {
        SockTable x = Check.told("sock a 1; sock b 1; sock c 1; sock d 1; glove g 2 0; glove h 0 2;"
            + "like a b 1; like b c 4; like c d 1; like a d 4; like g h 6; like a g 0; near 5;");
        for (int i = 0; i < 8; i++) {
            x.draw(i);
        }
        CHECK.due("odd(0)", x.odd(0), 2);
        CHECK.due("odd(1)", x.odd(1), 2);
        Check.read(x, "sock a 1; sock b 1; sock c 1; sock d 1; like a b 0; like b c 1; like c d 5; near 5; like a d 6;");
        for (int i = 0; i < 4; i++) {
            x.draw(i);
        }
        CHECK.due("more pairs first", x.odd(0), 2);
        CHECK.due("odd(1)", x.odd(1), 5);
        Check.read(x, "sock a 1; sock b 1; sock c 1; sock d 1; like a d 9; like b c 9; like a b 90; near 90;");
        for (int i = 0; i < 4; i++) {
            x.draw(i);
        }
        CHECK.due("no more unlike than near", x.odd(1), 18);
        Check.read(x, "glove g 3 0; glove h 0 2; glove i 0 2; like g h 3; like g i 2; like h i 0; near 3;");
        for (int kind : new int[] {0, 0, 0, 3, 3, 5, 5}) {
            x.draw(kind);
        }
        CHECK.due("three lefts", x.odd(0), 3);
        CHECK.due("the least unlike", x.odd(1), 7);
        x.take(0);
        CHECK.due("two lefts", x.odd(1), 4);
        for (int wrong : new int[] {-1, 2, MIN, MAX}) {
            CHECK.due("odd(" + wrong + ")", x.odd(wrong), -1);
        }
        CHECK.due("near 0", Check.told("sock a 1; sock b 1;").odd(0), 0);
        CHECK.due("unlike 100", Check.told("sock a 1; sock b 1; near 99;").odd(1), 0);
    }

    private static void lost() {
        SockTable x = Check.told("sock a 3; glove g 1 2;");
        long[] due = {4 * 3, 4 * 3 + 4 * 4, 4 * 4 + 4, 4, 0};
        for (int w = 0; w < due.length; w++) {
            CHECK.due("lost(" + w + ", 1, 2)", x.lost(w, 1, 2), due[w]);
        }
        x.draw(1);
        x.draw(0);
        CHECK.due("what lies there counts too", x.lost(2, 1, 2), due[2]);
        x.draw(0);
        CHECK.due("what is rolled doesn't", x.lost(0, 1, 2) + x.lost(1, 1, 2) + x.lost(2, 1, 2) + x.lost(3, 1, 2), 16);
        CHECK.due("all lost", x.lost(0, 9, 9), 6561);
        CHECK.due("none lost", x.lost(2, 0, 9), 6561);
        CHECK.due("b to the how many", Check.told("glove g 9 9;").lost(0, 0, 9), 150094635296999121L);
        CHECK.due("18 without a partner", Check.told("glove g 9 0; glove h 0 9;").lost(18, 1, 3), 262144);
        int[][] wrong = {{-1, 1, 2}, {19, 1, 2}, {0, 1, 0}, {0, 1, 10}, {0, 3, 2}, {0, -1, 2}, {MIN, 0, 1}, {MAX, 0, 1}, {0, MIN, 9},
            {0, 0, MIN}, {0, MAX, MAX}};
        for (int[] w : wrong) {
            CHECK.due("lost(" + w[0] + ", " + w[1] + ", " + w[2] + ")", x.lost(w[0], w[1], w[2]), -1);
        }
    }

    private static void years() {
        // LOT 1000 of the first week's four with seed 7: 67, 830, 698, 189; of the next week's 354, 102, 962, 281.
        SockTable x = Check.told("sock a 2; glove g 1 1; seed 7; lose = 103;");
        CHECK.due("years(1, 0)", x.years(1, 0), 3);
        CHECK.due("years(1, 1)", x.years(1, 1), 1);
        CHECK.due("years(1, 2)", x.years(1, 2), 0);
        CHECK.due("years(2, 0)", x.years(2, 0), 2);
        CHECK.due("years(1, 0) again", x.years(1, 0), 3);
        Check.read(x, "sock a 2; glove g 1 1; seed 7; lose = 102;");
        CHECK.due("below, not just as much", x.years(2, 0), 3);
        Check.read(x, "sock a 2; glove g 1 1; seed 7; lose = if week < 1 then 0 else 103;");
        CHECK.due("years(1, 2)", x.years(1, 2), -2);
        CHECK.due("years(2, 2)", x.years(2, 2), 1);
        CHECK.due("years(2, 0)", x.years(2, 0), 3);
        CHECK.due("years(1, 2) then", x.years(1, 2), -2);
        x.draw(0);
        x.draw(0);
        CHECK.due("all things by the text", x.years(1, 0), 4);
        int[][] wrong = {{0, 0}, {-1, 0}, {201, 0}, {5, 3}, {5, -1}, {MIN, 0}, {MAX, 2}, {5, MIN}, {5, MAX}};
        for (int[] w : wrong) {
            CHECK.due("years(" + w[0] + ", " + w[1] + ")", x.years(w[0], w[1]), -1);
        }
        CHECK.due("years(200, 0)", x.years(200, 0), Check.told(
            "sock a 2; glove g 1 1; seed 7; lose = if week < 1 then 0 else 103;").years(200, 0));
    }

    /** The law decides about the things of one week: 67, 830, 698, 189 of 1000, and 67, 30, 98, 89 of 100. */
    private static void leftBy(String law, int left) {
        SockTable x = Check.told("sock a 2; glove g 1 1; seed 7; lose = " + law + ";");
        CHECK.due("years(1, 0) by " + law, x.years(1, 0), left);
    }

    private static void lawOfLose() {
        leftBy("1000", 0);
        leftBy("0", 4);
        leftBy("0 - 1", 4);
        leftBy("kind * 1000", 2);
        leftBy("if kind < 1 then 0 else if kind < 2 then 1000 else 0", 3);
        leftBy("if there < 2 then 1000 else 0", 2);
        leftBy("if 1 < there then 1000 else 0", 3);
        leftBy("if all < 4 then 1000 else 0", 4);
        leftBy("if 3 < all then 1000 else 0", 3);
        leftBy("if lot < 68 then 1000 else 0", 2);
        leftBy("if lot < 67 then 1000 else 0", 3);
        leftBy("week + 68", 3);
        leftBy("week + 67", 4);
        leftBy("10 - 5 - 5 + 1000", 0);
        leftBy("2 * 3 + 4 * 250 - 6", 0);
        leftBy("2 * (3 + 4) * 50 - 2", 2);
        leftBy("2 * (3 + 4) * 50 - 1", 1);
        leftBy("100 / 3 * 3 - 99 + 830", 1);
        leftBy("100 / 3 * 3 - 99 + 831", 0);
        leftBy("(0 - 7) / 2 + 3 + 68", 3);
        leftBy("(0 - 7) / 2 + 3 + 67", 4);
        leftBy("9999 * 9999 * 22", 4);
        leftBy("9999 * 9999 * 21", 0);
        leftBy("9999 * 9999 * 43", 0);
        leftBy("1000 / week", 4);
        leftBy("1000 + 1 / (week * 5)", 4);
        leftBy("if 1 / week < 1 then 1000 else 1000", 4);
        leftBy("if 0 < 1 then 1000 else 1 / 0", 0);
        leftBy("if 1 < 0 then 1 / 0 else 1000", 0);
        leftBy("if 1 < 1 then 1000 else 0", 4);
        leftBy("((((((1000))))))", 0);
        leftBy("1-(1-(1-(1-(1-(1-1001*1)*1)*1)*1)*1)*1", 0);
        leftBy("2000-1*(2-1*(2-1*(2-1*(2-1*(2-1*(1001-1*1))))))", 0);
        leftBy("if 1 < 1-1*(1-1*(1-1*(1-1*(1-1*(1-1*(1-1*1)))))) then 0 else 1000", 0);
        leftBy("4" + "+4".repeat(191) + "+63", 0);
        leftBy("4" + "+4".repeat(191) + "+62", 1);
        leftBy("if 1+(1+(1+(1+(1+(1+1*1)*1)*1)*1)*1)*1 < 8*(1*(1*(1*(1*(1*(1)))))) then 1000 else 0", 0);
    }

    private static void seen() {
        SockTable x = Check.told("sock a 3; glove g 2 1;");
        CHECK.due("rows(0, 2) with nothing known", x.rows(0, 2), 5);
        CHECK.due("see(0, 1)", x.see(0, 1), 0);
        CHECK.due("see(1, 1)", x.see(1, 1), 1);
        CHECK.due("see(2, 0)", x.see(2, 0), 2);
        CHECK.due("see(2, 1)", x.see(2, 1), 3);
        long[][] due = {{1, 3, 5, 6, 5, 3, 1}, {0, 1, 2, 3, 3, 2, 1}, {0, 0, 1, 0, 2, 0, 1}, {0, 0, 1, 0, 2, 0, 1}, {0, 0, 0, 0, 0, 0, 0}};
        for (int k = 0; k < due.length; k++) {
            for (int n = 0; n < due[k].length; n++) {
                CHECK.due("rows(" + k + ", " + n + ")", x.rows(k, n), due[k][n]);
            }
        }
        CHECK.due("rows(5, 1)", x.rows(5, 1), -1);
        CHECK.due("rows(-1, 1)", x.rows(-1, 1), -1);
        CHECK.due("rows(0, -1)", x.rows(0, -1), -1);
        CHECK.due("rows(0, 18)", x.rows(0, 18), 0);
        CHECK.due("rows(0, 19)", x.rows(0, 19), -1);
        CHECK.due("rows(MIN, MAX)", x.rows(MIN, MAX), -1);
        int[][] wrong = {{-1, 0}, {3, 0}, {0, -1}, {0, 19}, {MIN, 1}, {MAX, 1}, {1, MIN}, {1, MAX}};
        for (int[] w : wrong) {
            CHECK.due("see(" + w[0] + ", " + w[1] + ")", x.see(w[0], w[1]), -1);
        }
        for (int i = 4; i < 20; i++) {
            CHECK.due("see " + i, x.see(i % 3, i % 19), i);
        }
        CHECK.due("a 21st", x.see(0, 1), -1);
        CHECK.due("count(13)", x.count(13), 20);
        CHECK.due("forget()", x.forget(), 20);
        CHECK.due("forget()", x.forget(), 0);
        CHECK.due("rows(1, 1)", x.rows(1, 1), -1);
        CHECK.due("see(0, 18)", x.see(0, 18), 0);
        x.draw(0);
        x.undo();
        CHECK.due("undo forgets nothing seen", x.count(13), 1);
        CHECK.due("more than there can be", x.rows(1, 3), 0);
    }

    private static void spans() {
        SockTable x = Check.told("sock a 9; glove g 4 3;");
        CHECK.due("span(0, 16, 0)", x.span(0, 16, 0), 909);
        CHECK.due("span(0, 15, 0)", x.span(0, 15, 0), 809);
        CHECK.due("span(0, 5, 0)", x.span(0, 5, 0), 5);
        CHECK.due("span(0, 5, 1)", x.span(0, 5, 1), 4);
        CHECK.due("span(0, 0, 2)", x.span(0, 0, 2), 0);
        x.see(1, 2);
        x.see(0, 1);
        CHECK.due("span(1, 6, 1)", x.span(1, 6, 1), 204);
        CHECK.due("span(2, 6, 1)", x.span(2, 6, 1), -2);
        CHECK.due("span(2, 7, 1)", x.span(2, 7, 1), 204);
        CHECK.due("span(2, 7, 2)", x.span(2, 7, 2), 2);
        CHECK.due("span(2, 7, 0)", x.span(2, 7, 0), 105);
        CHECK.due("span(1, 17, 0)", x.span(1, 17, 0), -2);
        int[][] wrong = {{3, 1, 0}, {-1, 1, 0}, {0, -1, 0}, {0, 19, 0}, {0, 1, 3}, {0, 1, -1}, {MIN, 1, 0}, {0, MAX, 0}, {0, 1, MAX}, {0, 1, MIN}};
        for (int[] w : wrong) {
            CHECK.due("span(" + w[0] + ", " + w[1] + ", " + w[2] + ")", x.span(w[0], w[1], w[2]), -1);
        }
    }

    private static void holdAndRestore() {
        SockTable x = Check.told(TWO_AND_GLOVE + "few;");
        for (int wrong : new int[] {-1, 3, MIN, MAX}) {
            CHECK.due("hold(" + wrong + ")", x.hold(wrong), false);
            CHECK.due("restore(" + wrong + ")", x.restore(wrong), false);
        }
        CHECK.due("restore(0)", x.restore(0), false);
        lots(x, 20, 0, 22, 32, 22, 31);
        CHECK.due("hold(1)", x.hold(1), true);
        CHECK.due("count(12) stays", x.count(12), 6);
        CHECK.due("count(14)", x.count(14), 1);
        lots(x, 0, 11, 1);
        x.see(0, 1);
        CHECK.due("restore(0)", x.restore(0), false);
        CHECK.due("count(12)", x.count(12), 9);
        CHECK.due("restore(1)", x.restore(1), true);
        int[] counts = {4, 3, 10, 7, 1, 1, 2, 2, 6, 0, 0, 0, 0, 1, 1};
        for (int i = 0; i < counts.length; i++) {
            CHECK.due("count(" + i + ") as held", x.count(i), counts[i]);
        }
        CHECK.due("undo()", x.undo(), false);
        lots(x, 0, 11, 1);
        CHECK.due("it stays there", x.restore(1), true);
        lots(x, 0, 11, 1, 20, 30, 11, 0);
        CHECK.due("hold(1) over it", x.hold(1), true);
        CHECK.due("hold(0)", x.hold(0), true);
        CHECK.due("hold(2)", x.hold(2), true);
        CHECK.due("count(14)", x.count(14), 3);
        x.undo();
        CHECK.due("restore(1)", x.restore(1), true);
        CHECK.due("count(8)", x.count(8), 13);
        CHECK.due("nothing can be undone then", x.count(12), 0);
    }

    /** That nothing can be drawn any more is of the table, and goes with it into a slot. */
    private static void stopIsHeld() {
        SockTable x = Check.told("sock a 2; sock b 2; table 1; full stop;");
        x.draw(0);
        x.hold(0);
        x.draw(1);
        x.hold(1);
        CHECK.due("stopped", x.draw(0), 3);
        x.restore(0);
        CHECK.due("not stopped yet", x.draw(0), 1);
        x.restore(1);
        CHECK.due("stopped again", x.draw(0), 3);
    }

    private static void count() {
        SockTable x = Check.told("sock a 3; glove g 2 1; near 4; table 3; full many; line a g right g; ");
        x.draw(0);
        x.draw(0);
        x.draw(1);
        x.see(0, 1);
        x.hold(2);
        x.feed(0, 0, 0, 0, 0);
        int[] counts = {3, 2, 6, 3, 1, 1, 3, 3, 3, 3, 4, 20, 3, 1, 1};
        for (int i = 0; i < counts.length; i++) {
            CHECK.due("count(" + i + ")", x.count(i), counts[i]);
        }
        for (int wrong : new int[] {-1, 15, MIN, MAX}) {
            CHECK.due("count(" + wrong + ")", x.count(wrong), -1);
        }
    }

    /** The dearest calls, 512 of them on one object, in the small room that a run has. */
    private static void dearest() {
        SockTable x = Check.told("sock a 2; sock b 2; sock c 2; sock d 2; sock e 2; sock f 2; sock g 3; sock h 3;"
            + "table 3; full few; seed 5; lose = if week < 1 then 1 else 2;");
        long all = 6402373705728000L;
        for (int i = 0; i < 100; i++) {
            CHECK.due("draw", x.draw(i % 8), 0);
            CHECK.due("mosts() below 8 in all", x.mosts() < 8 * all, true);
            CHECK.due("undo", x.undo(), true);
            CHECK.due("soonest", x.soonest(30, 0) >= 0, true);
            CHECK.due("within(8)", x.within(8), all);
        }
    }
}
