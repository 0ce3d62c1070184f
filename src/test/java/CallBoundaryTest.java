/** Promises 1 to 29, one by one: the last argument that is taken and the first that is refused, and that a refused call, or a question, changes nothing. */
public final class CallBoundaryTest {
    private static final Check CHECK = new Check("CallBoundaryTest");
    private static final int MIN = Integer.MIN_VALUE;
    private static final int MAX = Integer.MAX_VALUE;
    private static final int BLANKS = 0x20202020;

    /** A call by one argument; what answers a boolean counts 1 or 0. */
    private interface Call {
        long by(SockTable x, int argument);
    }

    public static void main(String[] args) {
        newObject();
        feed();
        feedBytes();
        back();
        read();
        place();
        kind();
        unlike();
        draw();
        lot();
        take();
        undo();
        undoEach();
        within();
        lies();
        mosts();
        sure();
        evening();
        soonest();
        line();
        exchange();
        odd();
        lost();
        years();
        see();
        forget();
        rows();
        span();
        hold();
        restore();
        restoreStopped();
        count();
        lastCall();
        questionsChangeNothing();
        CHECK.end();
    }

    // The states that calls are refused in.

    private static void fresh(SockTable x) {
        CHECK.due("a new object has an empty tape", x.count(11), 0);
    }

    private static void midway(SockTable x) {
        Check.read(x, "sock a 3;sock b 2;glove c 2 1;sock d 2;like a b 7;like b d 3;near 8;table 2;full few;line a b c;seed 3;lose=if week<3 then 50 else 9;");
        x.draw(0);
        x.draw(2);
        x.hold(1);
        x.draw(1);
        x.draw(3);
        x.take(0);
        x.lot();
        x.see(0, 1);
        x.see(2, 0);
        Check.read(x, "sock a 10;");
        Check.feed(x, "sock");
    }

    private static void stopped(SockTable x) {
        Check.read(x, "sock a 2;glove g 2 2;sock b 3;table 1;full stop;seed 4;");
        x.hold(0);
        x.draw(1);
        x.draw(0);
        x.hold(2);
    }

    private static void emptied(SockTable x) {
        Check.read(x, "sock a 2;glove g 1 1;sock b 1;");
        for (int i = 0; i < 4; i++) {
            x.draw(i);
            x.draw(i);
        }
    }

    /** 20 seen, 40 to undo, three slots, 2,000 bytes. */
    private static void brimful(SockTable x) {
        Check.read(x, "sock a 3;glove g 2 2;sock b 3;table 2;full back;seed 12;lose=if lot<50 then 9 else 99;");
        for (int i = 0; i < 21; i++) {
            x.draw(0);
            x.take(0);
        }
        x.hold(0);
        x.draw(3);
        x.hold(1);
        x.draw(1);
        x.hold(2);
        for (int i = 0; i < 20; i++) {
            x.see(i % 4, i == 0 || i == 19 ? 1 : 0);
        }
        for (int i = 0; i < 100; i++) {
            x.feed(0x6e656172, 0x20313b20, 0x6e656172, 0x20323b20, BLANKS);
        }
    }

    private static void refused(String name, Call call, long due, Look.Way before, int... arguments) {
        for (int argument : arguments) {
            SockTable x = new SockTable();
            before.go(x);
            CHECK.due(name + " by " + argument, call.by(x, argument), due);
            CHECK.nothing(name + " by " + argument, before, y -> call.by(y, argument));
        }
    }

    private static void refusedEverywhere(String name, Call call, long due, int... arguments) {
        refused(name + ", fresh", call, due, CallBoundaryTest::fresh, arguments);
        refused(name + ", midway", call, due, CallBoundaryTest::midway, arguments);
        refused(name + ", stopped", call, due, CallBoundaryTest::stopped, arguments);
        refused(name + ", emptied", call, due, CallBoundaryTest::emptied, arguments);
        refused(name + ", brimful", call, due, CallBoundaryTest::brimful, arguments);
    }

    private static SockTable at(Look.Way way) {
        SockTable x = new SockTable();
        way.go(x);
        return x;
    }

    // Promise 1: "Nothing is told."
    private static void newObject() {
        SockTable x = new SockTable();
        int[] counts = {0, 0, 0, 0, 0, 0, 18, 1, 0, 0, 0, 0, 0, 0, 0};
        for (int i = 0; i < counts.length; i++) {
            CHECK.due("count(" + i + ") of a new one", x.count(i), counts[i]);
        }
        CHECK.same("a new one, and what an empty text tells", CallBoundaryTest::fresh, SockTable::read, "", "");
        CHECK.same("a new one, and what a text of blanks tells", CallBoundaryTest::fresh, y -> Check.read(y, "  \n"), "", "");
        SockTable y = Check.told("sock a 1;");
        CHECK.due("two objects have nothing in common", x.count(0), 0);
        CHECK.due("two objects have nothing in common", y.count(0), 1);
    }

    // Promise 2: "NONE, and nothing comes, if it would have more than 2,000."
    private static void feed() {
        SockTable x = new SockTable();
        for (int i = 1; i <= 100; i++) {
            CHECK.due("feed " + i, x.feed(BLANKS, BLANKS, BLANKS, BLANKS, BLANKS), 20 * i);
        }
        CHECK.due("feed 101", x.feed(BLANKS, BLANKS, BLANKS, BLANKS, BLANKS), -1);
        CHECK.due("2,000 stay", x.count(11), 2000);
        for (int gone = 1; gone <= 40; gone++) {
            CHECK.due("back(1)", x.back(1), 2000 - gone);
            if (gone == 20) {
                CHECK.due("1,980 and 20", x.feed(0, 0, 0, 0, 0), 2000);
                x.back(20);
            } else if (gone < 20) {
                CHECK.due(2000 - gone + " and 20", x.feed(0, 0, 0, 0, 0), -1);
            }
            CHECK.due("what is there stays", x.count(11), 2000 - gone);
        }
        CHECK.due("1,960 of blanks", x.read(), 0);
        CHECK.due("the tape is empty then", x.feed(0, 0, 0, 0, 0), 20);
        refused("feed", (y, n) -> y.feed(n, n, n, n, n), -1, CallBoundaryTest::brimful, 0, -1, MIN, MAX, BLANKS);
        refused("feed onto 1,981", (y, n) -> y.feed(n, n, n, n, n), -1, y -> {
            brimful(y);
            y.back(19);
        }, 0, BLANKS);
    }

    // Promise 2: "Twenty bytes, the highest of a first, come behind the tape".
    private static void feedBytes() {
        for (int place = 0; place < 20; place++) {
            for (int b : new int[] {0, 1, 127, 128, 255}) {
                int[] five = {BLANKS, BLANKS, BLANKS, BLANKS, BLANKS};
                int shift = 24 - 8 * (place % 4);
                five[place / 4] = five[place / 4] & ~(255 << shift) | b << shift;
                SockTable x = new SockTable();
                x.feed(BLANKS, BLANKS, BLANKS, BLANKS, BLANKS);
                CHECK.due("feed behind 20", x.feed(five[0], five[1], five[2], five[3], five[4]), 40);
                CHECK.due("byte " + b + " at " + place, x.read(), 1);
                CHECK.due("place of byte " + b + " at " + place, x.place(), 20 + place);
            }
        }
        SockTable x = new SockTable();
        x.feed(0x736f636b, 0x20613120, 0x3b736f63, 0x6b206232, 0x3b202020);
        CHECK.due("sock a1 ;sock b2;", x.read(), 0);
        CHECK.due("b2", x.kind(1, 2), 2);
    }

    // Promise 3: "NONE, and nothing goes, if it has not so many, or n is below 0."
    private static void back() {
        SockTable x = new SockTable();
        CHECK.due("back(0) of none", x.back(0), 0);
        Check.feed(x, "sock a 1;sock b 1;sock c 1;sock d 1;");
        CHECK.due("back(0)", x.back(0), 36);
        CHECK.due("back(1)", x.back(1), 35);
        CHECK.due("back(36)", x.back(36), -1);
        CHECK.due("back(17)", x.back(17), 18);
        CHECK.due("back(18)", x.back(18), 0);
        CHECK.due("back(1) of none", x.back(1), -1);
        Check.feed(x, "sock a 1;sock b 1;");
        x.back(9);
        CHECK.due("the last ones go", Check.read(x, "sock c 2;"), 0);
        CHECK.due("the last ones go", x.kind(0, 2) * 10 + x.kind(1, 2), 12);
        refused("back, fresh", SockTable::back, -1, CallBoundaryTest::fresh, 1, -1, MIN, MAX, 2000, 2001);
        refused("back, midway", SockTable::back, -1, CallBoundaryTest::midway, 5, -1, MIN, MAX, MIN + 4, 24);
        refused("back, brimful", SockTable::back, -1, CallBoundaryTest::brimful, 2001, -1, MIN, MAX);
        refused("back(0)", SockTable::back, 2000, CallBoundaryTest::brimful, 0);
        refused("back(0)", SockTable::back, 4, CallBoundaryTest::midway, 0);
        x = at(CallBoundaryTest::brimful);
        CHECK.due("all go", x.back(2000), 0);
        CHECK.due("none is left", x.read(), 0);
        CHECK.due("none is left", x.count(0), 0);
    }

    // Promise 4: "The tape, which is empty then, is read: 0, or the number of its FAULT."
    private static void read() {
        String[] texts = {"sock a 1;", "", "x", "sock a 0;".repeat(9), "sock a 1;sock a 1;", "line a;", "near 100;"};
        int[] due = {0, 0, 1, 2, 3, 4, 5};
        for (int i = 0; i < texts.length; i++) {
            SockTable x = new SockTable();
            CHECK.due("read() of " + texts[i], Check.read(x, texts[i]), due[i]);
            CHECK.due("the tape is empty then", x.count(11), 0);
            CHECK.due("back(1) then", x.back(1), -1);
            CHECK.due("read() once more, of an empty tape", x.read(), 0);
            CHECK.due("nothing is told then", x.count(0) + x.count(2), 0);
        }
    }

    // Promise 5: "The byte of the latest read()'s FAULT; NONE without."
    private static void place() {
        SockTable x = new SockTable();
        CHECK.due("none was read", x.place(), -1);
        Check.feed(x, "  x");
        CHECK.due("none was read yet", x.place(), -1);
        x.read();
        CHECK.due("the third byte", x.place(), 2);
        CHECK.due("asked again", x.place(), 2);
        Check.feed(x, "x");
        CHECK.due("the latest read()'s, not the tape's", x.place(), 2);
        x.read();
        CHECK.due("the first byte", x.place(), 0);
        Check.read(x, "near 100;");
        CHECK.due("the latest", x.place(), 5);
        Check.read(x, " ".repeat(1996) + "near");
        CHECK.due("the end of 2,000", x.place(), 2000);
        Check.read(x, "near 9;");
        CHECK.due("without", x.place(), -1);
    }

    // Promise 6: "NONE for others."
    private static void kind() {
        refused("kind(n, 0)", (x, n) -> x.kind(n, 0), -1, CallBoundaryTest::fresh, 0, -1, MIN, MAX);
        refused("kind(n, 0)", (x, n) -> x.kind(n, 0), -1, CallBoundaryTest::midway, 5, 8, -1, MIN, MAX);
        refused("kind(4, n)", (x, n) -> x.kind(4, n), -1, CallBoundaryTest::midway, 6, -1, MIN, MAX);
        refused("kind(n, n)", (x, n) -> x.kind(n, n), -1, CallBoundaryTest::midway, 6, -1, MIN, MAX);
        SockTable x = at(CallBoundaryTest::midway);
        CHECK.due("the last kind, the last what", x.kind(4, 5), 3);
        CHECK.due("the first kind, the first what", x.kind(0, 0), 2);
        x = Check.told("glove a 1 2;glove b 3 0;glove c 1 1;glove d 1 9;");
        for (int i = 0; i < 8; i++) {
            CHECK.due("name of " + i, x.kind(i, 5), i / 2);
        }
        CHECK.due("kind(7, 2)", x.kind(7, 2), 9);
        CHECK.due("kind(8, 2)", x.kind(8, 2), -1);
        x.draw(1);
        x.draw(0);
        x.draw(6);
        x.draw(7);
        int[] rolled = {1, 1, 0, 0, 0, 0, 1, 1};
        for (int i = 0; i < 8; i++) {
            CHECK.due("pairs of " + i, x.kind(i, 4), rolled[i]);
        }
    }

    // Promise 7: "NONE: no such ones."
    private static void unlike() {
        for (int wrong : new int[] {0, -1, MIN, MAX}) {
            CHECK.due("unlike(0, " + wrong + ") of none", new SockTable().unlike(0, wrong), -1);
        }
        SockTable x = at(CallBoundaryTest::midway);
        CHECK.due("by names, not by kinds", x.unlike(1, 3), 3);
        CHECK.due("the last one", x.unlike(3, 3), 0);
        refused("unlike(n, 0)", (y, n) -> y.unlike(n, 0), -1, CallBoundaryTest::midway, 4, 5, 8, -1, MIN, MAX);
        refused("unlike(0, n)", (y, n) -> y.unlike(0, n), -1, CallBoundaryTest::midway, 4, 5, 8, -1, MIN, MAX);
        x = Check.told("sock a 0;sock b 0;sock c 0;sock d 0;sock e 0;sock f 0;sock g 0;sock h 0;like a h 1;like h g 2;");
        CHECK.due("the eighth", x.unlike(7, 0) * 10 + x.unlike(6, 7), 12);
        for (int wrong : new int[] {8, 9, 56, 64, -8}) {
            CHECK.due("unlike(" + wrong + ", 0)", x.unlike(wrong, 0), -1);
            CHECK.due("unlike(0, " + wrong + ")", x.unlike(0, wrong), -1);
        }
    }

    // Promise 8: "3, and nothing happens: nothing can be drawn any more; NONE (looked at first), and nothing happens".
    private static void draw() {
        refused("draw", SockTable::draw, -1, CallBoundaryTest::fresh, 0, -1, 8, MIN, MAX);
        refused("draw", SockTable::draw, -1, CallBoundaryTest::midway, 5, 8, -1, MIN, MAX);
        refused("draw of none in the bag", SockTable::draw, -1, CallBoundaryTest::emptied, 0, 1, 2, 3, 4);
        refused("draw from a stopped one", SockTable::draw, 3, CallBoundaryTest::stopped, 0, 1, 2, 3);
        refused("draw of no such kind looked at first", SockTable::draw, -1, CallBoundaryTest::stopped, 4, -1, MAX, MIN);
        Look.Way lastOut = x -> {
            Check.read(x, "sock a 1;sock b 2;table 1;");
            x.draw(0);
            x.draw(1);
        };
        refused("draw of none in the bag looked at first", SockTable::draw, -1, lastOut, 0);
        refused("draw from a stopped one", SockTable::draw, 3, lastOut, 1);
        refused("draw of a kind of which there are none", SockTable::draw, -1, x -> Check.read(x, "sock a 0;sock b 1;"), 0);
        SockTable x = Check.told("sock a 0;sock b 0;sock c 0;sock d 0;sock e 0;sock f 0;sock g 0;sock h 2;");
        CHECK.due("the eighth kind", x.draw(7), 0);
        CHECK.due("the last one of it", x.draw(7), 1);
        CHECK.due("none of it", x.draw(7), -1);
        CHECK.due("draws", x.count(8), 2);
    }

    // Promise 9: "-2, and nothing happens: the BAG is empty; 3, and nothing happens, as there."
    private static void lot() {
        refused("lot() of an empty bag", (x, n) -> x.lot(), -2, CallBoundaryTest::fresh, 0);
        refused("lot() of an empty bag", (x, n) -> x.lot(), -2, CallBoundaryTest::emptied, 0);
        refused("lot() from a stopped one", (x, n) -> x.lot(), 3, CallBoundaryTest::stopped, 0);
        SockTable x = Check.told("sock a 0;glove g 0 1;sock b 0;table 1;");
        CHECK.due("the only one", x.lot(), 20);
        CHECK.due("an empty bag", x.lot(), -2);
        x = Check.told("glove a 0 1;sock b 0;sock c 0;sock d 0;sock e 0;sock f 0;sock g 1;table 1;full back;");
        x.draw(7);
        CHECK.due("on a full table", x.lot(), 12);
        CHECK.due("it is a draw", x.count(8), 2);
        x.take(7);
        x.draw(1);
        CHECK.due("the last kind on a full table", x.lot(), 72);
    }

    // Promise 10: "true; false, and nothing happens: none is there."
    private static void take() {
        refusedEverywhere("take", (x, n) -> x.take(n) ? 1 : 0, 0, -1, 5, 8, MIN, MAX);
        refused("take of none there", (x, n) -> x.take(n) ? 1 : 0, 0, CallBoundaryTest::stopped, 0, 2, 3);
        refused("take of none there", (x, n) -> x.take(n) ? 1 : 0, 0, CallBoundaryTest::emptied, 0, 1, 2);
        SockTable x = at(CallBoundaryTest::emptied);
        CHECK.due("take of the one that is there", x.take(3), true);
        CHECK.due("once more", x.take(3), false);
        CHECK.due("in the bag", x.kind(3, 0), 1);
        CHECK.due("it is no draw", x.count(8), 5);
        CHECK.due("it can be undone", x.undo(), true);
        CHECK.due("on the table again", x.kind(3, 1), 1);
        x = Check.told("glove g 3 0;");
        x.draw(0);
        x.draw(0);
        CHECK.due("one of two", x.take(0), true);
        CHECK.due("just one of them", x.kind(0, 1) * 10 + x.kind(0, 0), 12);
    }

    // Promise 11: "true; false: there is none (the last 40 can be)."
    private static void undo() {
        refused("undo() of a new one", (x, n) -> x.undo() ? 1 : 0, 0, CallBoundaryTest::fresh, 0);
        refused("undo() behind restore()", (x, n) -> x.undo() ? 1 : 0, 0, x -> {
            midway(x);
            x.restore(1);
        }, 0);
        for (int things = 0; things < 85; things++) {
            SockTable x = Check.told("sock a 2;");
            for (int i = 0; i < things; i++) {
                CHECK.due("draw or take", i % 2 == 0 ? x.draw(0) : x.take(0) ? 1 : 0, i % 2);
            }
            CHECK.due("what can be undone of " + things, x.count(12), Math.min(40, things));
            for (int i = 0; i < Math.min(40, things); i++) {
                CHECK.due("undo " + i + " of " + things, x.undo(), true);
                CHECK.due("on the table", x.count(4), (things - i - 1) % 2);
                CHECK.due("draws", x.count(8), (things - i) / 2);
            }
            CHECK.due("undo more than " + Math.min(40, things), x.undo(), false);
            CHECK.due("what can be undone", x.count(12), 0);
        }
        SockTable x = at(CallBoundaryTest::brimful);
        for (int i = 0; i < 40; i++) {
            CHECK.due("undo " + i, x.undo(), true);
        }
        refused("undo() of a 41st", (y, n) -> y.undo() ? 1 : 0, 0, y -> {
            brimful(y);
            for (int i = 0; i < 40; i++) {
                y.undo();
            }
        }, 0);
        x.draw(0);
        CHECK.due("one again", x.undo(), true);
        CHECK.due("no more", x.undo(), false);
    }

    // Promise 11: "The last thing done (draw, lot, take) is undone": as if it had not been done, whichever it is.
    private static void undoEach() {
        Look.Way[] things = {x -> x.draw(0), x -> x.draw(1), x -> x.draw(3), SockTable::lot, x -> x.take(0), x -> x.take(3)};
        String[] fulls = {"back", "stop", "few", "many"};
        for (String full : fulls) {
            Look.Way before = x -> {
                Check.read(x, "sock a 3;glove g 2 2;sock b 3;table 2;full " + full + ";seed 8;");
                x.draw(0);
                x.draw(3);
            };
            for (int i = 0; i < things.length; i++) {
                Look.Way thing = things[i];
                CHECK.nothing("undone: thing " + i + " with " + full, before, x -> {
                    thing.go(x);
                    CHECK.due("undo()", x.undo(), true);
                });
            }
            CHECK.nothing("three undone with " + full, before, x -> {
                x.draw(1);
                x.take(3);
                x.lot();
                x.undo();
                x.undo();
                x.undo();
            });
        }
        CHECK.nothing("undone: what let a stopped one go on", CallBoundaryTest::stopped, x -> {
            x.take(1);
            x.undo();
        });
        Look.Way told = x -> Check.read(x, "sock a 3;");
        CHECK.nothing("hold, see, restore and questions are no things done", told, x -> {
            x.see(0, 0);
            x.forget();
            x.evening(500);
            CHECK.due("undo()", x.undo(), false);
        });
    }

    // Promise 12: "WITHIN t (0 .. 18); -1: no such t."
    private static void within() {
        refusedEverywhere("within", SockTable::within, -1, -1, 19, MIN, MAX);
        SockTable x = Check.told("glove g 9 0;glove h 0 9;");
        CHECK.due("within(0)", x.within(0), 0);
        CHECK.due("within(17)", x.within(17), 0);
        CHECK.due("within(18)", x.within(18), 6402373705728000L);
        CHECK.due("within(0) of none", new SockTable().within(0), 1);
    }

    // Promise 13: "k (0 .. how many are in the BAG); -1: no such k."
    private static void lies() {
        refused("lies", SockTable::lies, -1, CallBoundaryTest::fresh, -1, 1, 18, 19, MIN, MAX);
        refused("lies", SockTable::lies, -1, CallBoundaryTest::emptied, -1, 1, MIN, MAX);
        int bag = at(CallBoundaryTest::midway).count(3);
        refused("lies", SockTable::lies, -1, CallBoundaryTest::midway, -1, bag + 1, 19, MIN, MAX);
        CHECK.due("lies(" + bag + ")", at(CallBoundaryTest::midway).lies(bag) > 0, true);
        SockTable x = Check.told("glove g 9 0;glove h 0 9;");
        CHECK.due("lies(0)", x.lies(0), 0);
        CHECK.due("lies(18)", x.lies(18), 18 * 6402373705728000L);
        CHECK.due("lies(19)", x.lies(19), -1);
        x.draw(0);
        CHECK.due("lies(18) of 17 in the bag", x.lies(18), -1);
        CHECK.due("lies(17)", x.lies(17), 18 * 6402373705728000L / 18);
        CHECK.due("lies(0) of none", new SockTable().lies(0), 0);
    }

    // Promise 14: MOSTS.
    private static void mosts() {
        CHECK.due("of none", new SockTable().mosts(), 0);
        CHECK.due("of an emptied one, though one lies there", at(CallBoundaryTest::emptied).mosts(), 0);
        CHECK.due("of 18", Check.told("glove g 9 0;glove h 0 9;").mosts(), 18 * 6402373705728000L);
    }

    // Promise 15: "a of b (b 1 .. 99, a 0 .. b); NONE: no such ones."
    private static void sure() {
        refusedEverywhere("sure(n, 99)", (x, n) -> x.sure(n, 99), -1, -1, 100, MIN, MAX);
        refusedEverywhere("sure(0, n)", (x, n) -> x.sure(0, n), -1, 0, -1, 100, MIN, MAX);
        refused("sure(n, n)", (x, n) -> x.sure(n, n), -1, CallBoundaryTest::midway, 0, -1, 100, MIN, MAX);
        refused("sure(n, n - 1)", (x, n) -> x.sure(n, n - 1), -1, CallBoundaryTest::midway, 1, 2, 50, 99, 100, MIN);
        SockTable x = Check.told("sock a 1;sock b 1;");
        for (int b = 1; b <= 99; b++) {
            CHECK.due("sure(" + b + ", " + b + ")", x.sure(b, b), 2);
            CHECK.due("sure(0, " + b + ")", x.sure(0, b), 0);
            CHECK.due("sure(1, " + b + ")", x.sure(1, b), 2);
        }
    }

    // Promise 16: "EVENING; NONE: no such most." (1 .. 500)
    private static void evening() {
        refusedEverywhere("evening", SockTable::evening, -1, 0, -1, 501, MIN, MAX);
        SockTable x = Check.told("sock a 1;sock b 1;table 1;full back;");
        CHECK.due("evening(1)", x.evening(1), 1);
        CHECK.due("evening(500)", x.evening(500), 500);
        CHECK.due("evening(1) of none", new SockTable().evening(1), 0);
    }

    // Promise 17: "what 0 which, 1 the sum; NONE: no such ones." (n 1 .. 30)
    private static void soonest() {
        refusedEverywhere("soonest(n, 0)", (x, n) -> x.soonest(n, 0), -1, 0, -1, 31, MIN, MAX);
        refusedEverywhere("soonest(n, 1)", (x, n) -> x.soonest(n, 1), -1, 0, 31);
        refusedEverywhere("soonest(1, n)", (x, n) -> x.soonest(1, n), -1, -1, 2, MIN, MAX);
        SockTable x = Check.told("sock a 9;sock b 9;");
        CHECK.due("soonest(1, 1)", x.soonest(1, 1), 18);
        CHECK.due("soonest(30, 1)", x.soonest(30, 1), 540);
        CHECK.due("soonest(30, 0)", x.soonest(30, 0), 0);
        x = Check.told("sock a 2;sock b 1;sock c 4;table 2;full few;seed 99;");
        CHECK.due("many", x.soonest(3, 0), 3);
    }

    // Promise 18: LINE.
    private static void line() {
        CHECK.due("of none", new SockTable().line(), 0);
        CHECK.due("of 18", Check.told("glove g 9 0;glove h 0 9;line" + " g right h".repeat(9) + ";").line(), 18);
        CHECK.due("of 18 pairs", Check.told("glove g 9 9;line" + " g right g".repeat(9) + ";").line(), 1);
        CHECK.due("of 9 and 9", Check.told("glove g 9 9;line" + " g".repeat(9) + " right g".repeat(9) + ";").line(), 9);
    }

    // Promise 19: "(-2: none) .. NONE for others."
    private static void exchange() {
        refusedEverywhere("exchange", SockTable::exchange, -1, -1, 2, MIN, MAX);
        CHECK.due("of none", new SockTable().exchange(0), -2);
        CHECK.due("of none", new SockTable().exchange(1), 0);
        SockTable x = Check.told("sock a 2;sock b 2;line a b a b;");
        CHECK.due("exchange(0)", x.exchange(0), 3);
        CHECK.due("exchange(1)", x.exchange(1), 1);
        CHECK.due("nothing is exchanged", x.line(), 2);
    }

    // Promise 20: "NONE for others."
    private static void odd() {
        refusedEverywhere("odd", SockTable::odd, -1, -1, 2, MIN, MAX);
        CHECK.due("of none", new SockTable().odd(0) + new SockTable().odd(1), 0);
    }

    // Promise 21: "w (0 .. 18), a of b (b 1 .. 9, a 0 .. b); -1: no such ones."
    private static void lost() {
        refusedEverywhere("lost(n, 1, 2)", (x, n) -> x.lost(n, 1, 2), -1, -1, 19, MIN, MAX);
        refusedEverywhere("lost(0, n, 9)", (x, n) -> x.lost(0, n, 9), -1, -1, 10, MIN, MAX);
        refusedEverywhere("lost(0, 0, n)", (x, n) -> x.lost(0, 0, n), -1, 0, -1, 10, MIN, MAX);
        refused("lost(0, n, n)", (x, n) -> x.lost(0, n, n), -1, CallBoundaryTest::midway, 0, 10, -1, MIN, MAX);
        refused("lost(0, n, n - 1)", (x, n) -> x.lost(0, n, n - 1), -1, CallBoundaryTest::midway, 1, 2, 9, 10, MIN);
        SockTable x = Check.told("sock a 1;");
        for (int b = 1; b <= 9; b++) {
            for (int a = 0; a <= b; a++) {
                CHECK.due("lost(0, " + a + ", " + b + ")", x.lost(0, a, b), a);
                CHECK.due("lost(1, " + a + ", " + b + ")", x.lost(1, a, b), b - a);
                CHECK.due("lost(18, " + a + ", " + b + ")", x.lost(18, a, b), 0);
            }
        }
    }

    // Promise 22: "NONE: no such ones." (n 1 .. 200)
    private static void years() {
        refusedEverywhere("years(n, 0)", (x, n) -> x.years(n, 0), -1, 0, -1, 201, MIN, MAX);
        refusedEverywhere("years(n, 2)", (x, n) -> x.years(n, 2), -1, 0, 201);
        refusedEverywhere("years(1, n)", (x, n) -> x.years(1, n), -1, -1, 3, MIN, MAX);
        SockTable x = Check.told("sock a 4;lose=if week<199 then 0 else if there<3 then 0 else 1000;");
        CHECK.due("years(1, 0)", x.years(1, 0), 4);
        CHECK.due("years(1, 2)", x.years(1, 2), -2);
        CHECK.due("years(200, 0)", x.years(200, 0), 2);
        CHECK.due("years(200, 1)", x.years(200, 1), 1);
        CHECK.due("years(200, 2)", x.years(200, 2), 199);
        CHECK.due("years(199, 2)", x.years(199, 2), -2);
        CHECK.due("years(199, 0)", x.years(199, 0), 4);
        CHECK.due("years(199, 1)", x.years(199, 1), 2);
        CHECK.due("years(1, 2) of none", new SockTable().years(1, 2), -2);
    }

    // Promise 23: "its number; NONE, and nothing happens: 20 are there, no such ones." (0 .. 18)
    private static void see() {
        refusedEverywhere("see(n, 0)", (x, n) -> x.see(n, 0), -1, -1, 8, MIN, MAX);
        refusedEverywhere("see(0, n)", (x, n) -> x.see(0, n), -1, -1, 19, MIN, MAX);
        refused("see(n, 0)", (x, n) -> x.see(n, 0), -1, CallBoundaryTest::midway, 5);
        refused("see(n, 0) with no kinds", (x, n) -> x.see(n, 0), -1, CallBoundaryTest::fresh, 0);
        refused("see(n, 0) with 20", (x, n) -> x.see(n, 0), -1, CallBoundaryTest::brimful, 0, 3, 4);
        SockTable x = Check.told("sock a 1;sock b 1;");
        for (int i = 0; i < 20; i++) {
            CHECK.due("see " + i, x.see(i % 2, i < 19 ? i : 0), i);
        }
        CHECK.due("a 21st", x.see(1, 18), -1);
        CHECK.due("20", x.count(13), 20);
        CHECK.due("forget()", x.forget(), 20);
        CHECK.due("the first one again", x.see(1, 18), 0);
    }

    // Promise 24: "All that was SEEN is forgotten: how many there were."
    private static void forget() {
        CHECK.due("none", new SockTable().forget(), 0);
        SockTable x = at(CallBoundaryTest::brimful);
        CHECK.due("20", x.forget(), 20);
        CHECK.due("none then", x.forget(), 0);
        CHECK.due("none then", x.count(13), 0);
        CHECK.due("known by 1", x.rows(1, 1), -1);
        CHECK.same("seen and forgotten", CallBoundaryTest::stopped, y -> {
            stopped(y);
            y.see(0, 1);
            y.see(1, 1);
            y.forget();
        }, "", "");
        CHECK.same("seen, forgotten and seen", y -> {
            stopped(y);
            y.see(3, 0);
        }, y -> {
            stopped(y);
            y.see(0, 1);
            y.see(1, 1);
            y.forget();
            y.see(3, 0);
        }, "", "");
    }

    // Promise 25: "KNOWN by k, n (0 .. 18) in all; -1: no such ones."
    private static void rows() {
        refusedEverywhere("rows(0, n)", (x, n) -> x.rows(0, n), -1, -1, 19, MIN, MAX);
        refusedEverywhere("rows(n, 0)", (x, n) -> x.rows(n, 0), -1, -1, 21, MIN, MAX);
        refused("rows(n, 0)", (x, n) -> x.rows(n, 0), -1, CallBoundaryTest::fresh, 1);
        refused("rows(n, 0)", (x, n) -> x.rows(n, 0), -1, CallBoundaryTest::midway, 3);
        SockTable x = at(CallBoundaryTest::midway);
        CHECK.due("rows(2, 1)", x.rows(2, 1), 1);
        CHECK.due("rows(1, 1)", x.rows(1, 1), 1);
        CHECK.due("rows(0, 0)", x.rows(0, 0), 1);
        CHECK.due("rows(0, 18) of 10", x.rows(0, 18), 0);
        CHECK.due("rows(0, 10)", x.rows(0, 10), 1);
        CHECK.due("rows(0, 11)", x.rows(0, 11), 0);
        CHECK.due("rows(20, 0)", at(CallBoundaryTest::brimful).rows(20, 0), 0);
        CHECK.due("all 18", Check.told("glove g 9 9;").rows(0, 18), 1);
    }

    // Promise 26: "100 * the least + the greatest; -2: there are no ROWS; NONE: no such ones."
    private static void span() {
        refusedEverywhere("span(0, 0, n)", (x, n) -> x.span(0, 0, n), -1, -1, 8, MIN, MAX);
        refused("span(0, n, 0)", (x, n) -> x.span(0, n, 0), -1, CallBoundaryTest::midway, -1, 19, MIN, MAX);
        refused("span(n, 0, 0)", (x, n) -> x.span(n, 0, 0), -1, CallBoundaryTest::midway, -1, 3, MIN, MAX);
        refused("span(0, 0, n)", (x, n) -> x.span(0, 0, n), -1, CallBoundaryTest::midway, 5);
        refused("span(0, n, 0) with no kinds", (x, n) -> x.span(0, n, 0), -1, CallBoundaryTest::fresh, 0, 1, 18);
        SockTable x = at(CallBoundaryTest::midway);
        CHECK.due("no such kind is told though there are no rows", x.span(0, 18, 5), -1);
        CHECK.due("no rows", x.span(0, 18, 4), -2);
        CHECK.due("no rows", x.span(0, 11, 0), -2);
        CHECK.due("all", x.span(0, 10, 0), 303);
        CHECK.due("known by 2", x.span(2, 10, 0), -2);
        CHECK.due("known by 2: a 1 or 3", x.span(2, 5, 0), 103);
        CHECK.due("known by 1: c none to two", x.span(1, 5, 2), 2);
        x = Check.told("glove g 9 9;");
        CHECK.due("18", x.span(0, 18, 0), 909);
        CHECK.due("0", x.span(0, 0, 1), 0);
        CHECK.due("9", x.span(0, 9, 1), 9);
        CHECK.due("10", x.span(0, 10, 1), 109);
    }

    // Promise 27: "held in a SLOT (0 .. 2): true; false: no such one."
    private static void hold() {
        refusedEverywhere("hold", (x, n) -> x.hold(n) ? 1 : 0, 0, -1, 3, MIN, MAX);
        SockTable x = new SockTable();
        for (int slot = 0; slot < 3; slot++) {
            CHECK.due("hold(" + slot + ")", x.hold(slot), true);
            CHECK.due("slots held", x.count(14), slot + 1);
        }
        CHECK.due("hold(1) again", x.hold(1), true);
        CHECK.due("slots held", x.count(14), 3);
        for (int slot = 0; slot < 3; slot++) {
            x = Check.told("sock a 9;");
            x.hold(slot);
            for (int other = 0; other < 3; other++) {
                CHECK.due("only slot " + slot + " holds", x.restore(other), other == slot);
            }
        }
        x = Check.told("sock a 4;");
        for (int slot = 0; slot < 3; slot++) {
            x.draw(0);
            x.hold(slot);
        }
        for (int slot = 2; slot >= 0; slot--) {
            x.restore(slot);
            CHECK.due("draws of slot " + slot, x.count(8), slot + 1);
        }
        x.draw(0);
        x.hold(2);
        x.restore(1);
        x.restore(2);
        CHECK.due("the latest hold of it", x.count(8), 2);
    }

    // Promise 28: "(that stays there; nothing can be undone then): true; false, and nothing happens: no such one, nothing is held."
    private static void restore() {
        refusedEverywhere("restore", (x, n) -> x.restore(n) ? 1 : 0, 0, -1, 3, MIN, MAX);
        refused("restore, nothing held", (x, n) -> x.restore(n) ? 1 : 0, 0, CallBoundaryTest::fresh, 0, 1, 2);
        refused("restore, nothing held", (x, n) -> x.restore(n) ? 1 : 0, 0, CallBoundaryTest::midway, 0, 2);
        refused("restore, nothing held since the text", (x, n) -> x.restore(n) ? 1 : 0, 0, x -> {
            midway(x);
            x.read();
            Check.read(x, "sock a 3;table 1;");
            x.draw(0);
        }, 0, 1, 2);
        Look.Way text = x -> Check.read(x, "sock a 3;glove g 2 2;sock b 3;table 2;full many;seed 8;");
        Look.Way some = x -> {
            text.go(x);
            x.hold(0);
            x.draw(0);
            x.draw(1);
            x.hold(1);
        };
        CHECK.same("what is done behind hold() is as if not done", x -> {
            some.go(x);
            x.restore(1);
        }, x -> {
            some.go(x);
            x.draw(2);
            x.lot();
            x.lot();
            x.take(0);
            x.restore(1);
        }, "", "");
        SockTable x = at(some);
        CHECK.due("restore(0)", x.restore(0), true);
        CHECK.due("all is in the bag", x.count(3), 10);
        CHECK.due("nothing drawn", x.count(8), 0);
        CHECK.due("nothing to undo", x.undo(), false);
        CHECK.due("slots stay", x.count(14), 2);
        CHECK.due("restore(0) again", x.restore(0), true);
        x.draw(0);
        CHECK.due("from there on it can be undone", x.undo(), true);
        CHECK.due("no further", x.undo(), false);
        x.see(0, 1);
        x.feed(0, 0, 0, 0, 0);
        x.restore(1);
        CHECK.due("what was seen stays", x.count(13), 1);
        CHECK.due("the tape stays", x.count(11), 20);
    }

    // That nothing can be drawn any more is of the table, and goes with it.
    private static void restoreStopped() {
        SockTable x = at(CallBoundaryTest::stopped);
        x.restore(0);
        CHECK.due("held ahead of it", x.draw(1), 0);
        x.restore(2);
        CHECK.due("held behind it", x.draw(1), 3);
        x.take(1);
        x.draw(0);
        x.restore(2);
        CHECK.due("held behind it", x.lot(), 3);
    }

    // Promise 29: "NONE for others."
    private static void count() {
        refusedEverywhere("count", SockTable::count, -1, -1, 15, 16, MIN, MAX);
        int[] full = {4, 3, 10, 8, 2, 0, 2, 0, 23, 0, 0, 2000, 40, 20, 3};
        SockTable x = at(CallBoundaryTest::brimful);
        for (int i = 0; i < full.length; i++) {
            CHECK.due("count(" + i + ") of a brimful one", x.count(i), full[i]);
        }
        int[] mid = {5, 4, 10, 8, 2, 0, 2, 2, 5, 3, 8, 4, 6, 2, 1};
        x = at(CallBoundaryTest::midway);
        for (int i = 0; i < mid.length; i++) {
            CHECK.due("count(" + i + ") midway", x.count(i), mid[i]);
        }
        x = Check.told("glove a 9 9;glove b 0 0;glove c 0 0;glove d 0 0;near 99;table 18;full many;line" + " a right a".repeat(9) + ";");
        int[] most = {8, 4, 18, 18, 0, 0, 18, 3, 0, 18, 99, 0, 0, 0, 0};
        for (int i = 0; i < most.length; i++) {
            CHECK.due("count(" + i + ") of the most", x.count(i), most[i]);
        }
        for (int i = 0; i < 18; i++) {
            x.draw(i / 9);
        }
        CHECK.due("9 pairs", x.count(5), 9);
        CHECK.due("none on the table", x.count(4), 0);
        CHECK.due("none in the bag", x.count(3), 0);
    }

    // "An object is used for at most 512 calls": the last ones answer like the first.
    private static void lastCall() {
        SockTable x = new SockTable();
        x.feed(0x736f636b, 0x20613220, 0x3b736f63, 0x6b206233, 0x3b202020);
        x.read();
        for (int i = 2; i < 510; i++) {
            CHECK.due("call " + i, i % 2 == 0 ? x.draw(0) : x.take(0) ? 1 : 0, i % 2);
        }
        CHECK.due("the 511th call", x.count(8), 254);
        CHECK.due("the 512th call", x.mosts(), 12 * (2 * 1 + 8 * 2));
        x = Check.told("sock a 1;sock b 1;table 1;full back;");
        x.draw(0);
        for (int i = 0; i < 500; i++) {
            CHECK.due("draw " + i, x.lot(), 12);
        }
        CHECK.due("501 draws", x.count(8), 501);
        x = new SockTable();
        for (int i = 0; i < 256; i++) {
            CHECK.due("hold", x.hold(i % 3), true);
            CHECK.due("restore", x.restore(i % 3), true);
        }
    }

    // What only asks changes nothing, whatever it is asked for.
    private static void questionsChangeNothing() {
        Look.Way[] states = {CallBoundaryTest::fresh, CallBoundaryTest::midway, CallBoundaryTest::stopped, CallBoundaryTest::emptied, CallBoundaryTest::brimful};
        for (int i = 0; i < states.length; i++) {
            CHECK.nothing("questions in state " + i, states[i], x -> {
                x.place();
                x.kind(0, 0);
                x.unlike(0, 1);
                x.within(3);
                x.lies(1);
                x.mosts();
                x.sure(1, 2);
                x.evening(500);
                x.evening(1);
                x.soonest(30, 0);
                x.soonest(1, 1);
                x.line();
                x.exchange(0);
                x.exchange(1);
                x.odd(0);
                x.odd(1);
                x.lost(2, 1, 3);
                x.years(200, 0);
                x.years(3, 2);
                x.rows(0, 3);
                x.rows(1, 2);
                x.span(0, 3, 0);
                x.span(1, 3, 1);
                x.count(12);
            });
        }
    }
}
