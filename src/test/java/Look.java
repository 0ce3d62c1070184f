/** All that can be asked of an object after some calls, and what undo, the slots and further lots bring: each on a new object. */
final class Look {
    /** Calls on a new object; fewer than some 150, for an object is used for 512 at most. */
    interface Way {
        void go(SockTable x);
    }

    static String all(Way way) {
        StringBuilder text = new StringBuilder();
        asked(after(way), text);
        undone(after(way), text);
        for (int slot = 0; slot < 3; slot++) {
            SockTable x = after(way);
            text.append("\nslot ").append(slot).append(' ').append(x.restore(slot));
            things(x, text);
        }
        drawnOn(after(way), text);
        return text.toString();
    }

    private static SockTable after(Way way) {
        SockTable x = new SockTable();
        way.go(x);
        return x;
    }

    private static void asked(SockTable x, StringBuilder text) {
        for (int i = 0; i < 15; i++) {
            text.append(' ').append(x.count(i));
        }
        text.append("\nplace ").append(x.place()).append(" things");
        things(x, text);
        text.append("\nunlike");
        int names = x.count(1);
        for (int a = 0; a < names; a++) {
            for (int b = 0; b < names; b++) {
                text.append(' ').append(x.unlike(a, b));
            }
        }
        text.append("\norders ").append(x.within(0)).append(' ').append(x.within(1)).append(' ').append(x.within(2));
        text.append(' ').append(x.mosts()).append(' ').append(x.sure(1, 2)).append(' ').append(x.lies(0)).append(' ').append(x.lies(1));
        text.append("\nevenings ").append(x.evening(500)).append(' ').append(x.soonest(2, 0)).append(' ').append(x.soonest(2, 1));
        text.append("\nline ").append(x.line()).append(' ').append(x.exchange(0)).append(' ').append(x.exchange(1));
        text.append("\nodd ").append(x.odd(0)).append(' ').append(x.odd(1)).append(" lost ").append(x.lost(1, 1, 3));
        text.append("\nyears ").append(x.years(9, 0)).append(' ').append(x.years(9, 1)).append(' ').append(x.years(9, 2));
        rows(x, text);
    }

    private static void things(SockTable x, StringBuilder text) {
        int kinds = x.count(0);
        for (int i = 0; i < kinds; i++) {
            for (int what = 0; what < 6; what++) {
                text.append(' ').append(x.kind(i, what));
            }
        }
        text.append(' ').append(x.count(8)).append(' ').append(x.count(12)).append(' ').append(x.evening(500));
    }

    /** What was seen shows in how many rows there are by all that is known, and by all but the last of it. */
    private static void rows(SockTable x, StringBuilder text) {
        int seen = x.count(13);
        text.append("\nrows");
        for (int n = 0; n < 9; n++) {
            text.append(' ').append(x.rows(seen, n)).append('/').append(x.rows(seen - 1, n)).append('/').append(x.rows(1, n));
        }
        text.append(' ').append(x.span(seen, 3, 0));
    }

    private static void undone(SockTable x, StringBuilder text) {
        for (int i = 0; i < 41; i++) {
            text.append("\nundo ").append(x.undo()).append(' ').append(x.count(3)).append(' ').append(x.count(4)).append(' ');
            text.append(x.count(5)).append(' ').append(x.count(8)).append(' ').append(x.kind(0, 1)).append(' ').append(x.evening(500));
        }
    }

    private static void drawnOn(SockTable x, StringBuilder text) {
        text.append("\nlots");
        for (int i = 0; i < 12; i++) {
            text.append(' ').append(x.lot());
        }
        things(x, text);
        text.append(" fed ").append(x.feed(0, 0, 0, 0, 0)).append(" read ").append(x.read()).append(' ').append(x.place());
    }
}
