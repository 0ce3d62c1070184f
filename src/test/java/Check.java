/** What the tests share: feeding a text, and counting the answers that are not as due. */
final class Check {
    private final String test;
    private int asDue;
    private int wrong;

    Check(String test) {
        this.test = test;
    }

    void due(String call, long got, long want) {
        if (got == want) {
            asDue++;
            return;
        }
        wrong++;
        if (wrong <= 40) {
            System.out.println(test + ": " + call + " answered " + got + ", due is " + want);
        }
    }

    void due(String call, boolean got, boolean want) {
        due(call, got ? 1 : 0, want ? 1 : 0);
    }

    /** Two ways to the same state: all that can be asked is alike, but that of the one this, of the other that is told. */
    void same(String what, Look.Way one, Look.Way other, String ofOne, String ofOther) {
        String due = Look.all(one);
        String got = Look.all(other);
        if (!ofOne.isEmpty()) {
            due = due.replace(ofOne, ofOther);
        }
        if (!got.equals(due)) {
            String[] a = got.split("\n");
            String[] b = due.split("\n");
            for (int i = 0; i < a.length && i < b.length; i++) {
                if (!a[i].equals(b[i])) {
                    System.out.println(test + ": " + what + ": " + a[i] + " | as due: " + b[i]);
                }
            }
        }
        due(what + ": all is as it was", got.equals(due), true);
    }

    /** A refused call, or a question, changes nothing. */
    void nothing(String what, Look.Way before, Look.Way call) {
        same(what, before, x -> {
            before.go(x);
            call.go(x);
        }, "", "");
    }

    void end() {
        System.out.println(test + ": " + asDue + " answers as due, " + wrong + " not");
        if (wrong != 0 || asDue == 0) {
            System.exit(1);
        }
    }

    /** Brings the text onto the tape, which may hold something already; false if it has no room. */
    static boolean feed(SockTable x, String text) {
        for (int i = 0; i < text.length(); i += 20) {
            int[] words = new int[5];
            for (int j = 0; j < 20; j++) {
                int b = i + j < text.length() ? text.charAt(i + j) : ' ';
                words[j / 4] = words[j / 4] << 8 | b;
            }
            if (x.feed(words[0], words[1], words[2], words[3], words[4]) == SockTable.NONE) {
                return false;
            }
        }
        int over = (20 - text.length() % 20) % 20;
        x.back(over);
        return true;
    }

    static int read(SockTable x, String text) {
        feed(x, text);
        return x.read();
    }

    static SockTable told(String text) {
        SockTable x = new SockTable();
        int fault = read(x, text);
        if (fault != 0) {
            throw new IllegalStateException("fault " + fault + " at " + x.place() + " of: " + text);
        }
        return x;
    }
}
