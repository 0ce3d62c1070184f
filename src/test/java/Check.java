/** What the tests share: feeding a text, and counting the answers that are not as due. */
final class Check {
    private final String test;
    private int asDue;
    private int wrong;

    Check(String test) {
        this.test = test;
    }

    void due(String call, long got, long want) {
        if (got == want) {
            asDue++;
            return;
        }
        wrong++;
        if (wrong <= 40) {
            System.out.println(test + ": " + call + " answered " + got + ", due is " + want);
        }
    }

    void due(String call, boolean got, boolean want) {
        due(call, got ? 1 : 0, want ? 1 : 0);
    }

    void end() {
        System.out.println(test + ": " + asDue + " answers as due, " + wrong + " not");
        if (wrong != 0 || asDue == 0) {
            System.exit(1);
        }
    }

    /** Brings the text onto the tape, which may hold something already; false if it has no room. */
    static boolean feed(SockTable x, String text) {
        for (int i = 0; i < text.length(); i += 20) {
            int[] words = new int[5];
            for (int j = 0; j < 20; j++) {
                int b = i + j < text.length() ? text.charAt(i + j) : ' ';
                words[j / 4] = words[j / 4] << 8 | b;
            }
            if (x.feed(words[0], words[1], words[2], words[3], words[4]) == SockTable.NONE) {
                return false;
            }
        }
        int over = (20 - text.length() % 20) % 20;
        x.back(over);
        return true;
    }

    static int read(SockTable x, String text) {
        feed(x, text);
        return x.read();
    }

    static SockTable told(String text) {
        SockTable x = new SockTable();
        int fault = read(x, text);
        if (fault != 0) {
            throw new IllegalStateException("fault " + fault + " at " + x.place() + " of: " + text);
        }
        return x;
    }
}
