/** Terms I, sentence by sentence: of each bound the last that is taken and the first that is refused, on both sides. */
public final class TextBoundaryTest {
    private static final Check CHECK = new Check("TextBoundaryTest");
    private static final String[] WORDS = {"sock", "glove", "like", "near", "table", "full", "back", "stop", "few", "many", "line", "right",
        "seed", "lose", "if", "then", "else", "week", "kind", "there", "all", "lot"};
    private static final String A = "sock a 1;";

    public static void main(String[] args) {
        bytes();
        blanks();
        lettersOfNames();
        lengthsOfNames();
        wordsAreNoNames();
        digitsOfInts();
        lengthsOfInts();
        signs();
        textOfNothing();
        everyTell();
        everyCut();
        kinds();
        numbers();
        partners();
        things();
        unlike();
        likes();
        near();
        room();
        full();
        line();
        lineTheLast();
        seed();
        lose();
        tokensInAll();
        ifs();
        brackets();
        leastOfOnePlace();
        firstByPlace();
        twiceAndName();
        wrongPlaces();
        faultChangesNothing();
        whatWentIsGone();
        goodTakesThePlace();
        CHECK.end();
    }

    private static SockTable fault(String text, int fault, int place) {
        SockTable x = new SockTable();
        boolean fed = Check.feed(x, text);
        String shown = text.length() > 70 ? text.length() + " bytes: .." + text.substring(text.length() - 50) : text;
        CHECK.due("feed of " + shown, fed && x.count(11) == text.length(), true);
        CHECK.due("read() of " + shown, x.read(), fault);
        CHECK.due("place() of " + shown, x.place(), place);
        return x;
    }

    private static SockTable good(String text) {
        return fault(text, 0, -1);
    }

    /** "A TEXT has 2,000 bytes at most": the 2,000th is read like any other. */
    private static void bytes() {
        String most = " ".repeat(1991);
        CHECK.due("what ends with the 2,000th byte", good(most + A).count(2), 1);
        fault(most + "sock a 1 ", 1, 2000);
        fault(most + "sock a 1x", 1, 1999);
        fault(most + "sock a 1.", 1, 1999);
        fault(" ".repeat(1990) + "sock a 10;", 5, 1997);
        good(" ".repeat(2000));
        fault(" ".repeat(1999) + "a", 1, 1999);
        CHECK.due("2,001 bytes", Check.feed(new SockTable(), " ".repeat(2001)), false);
    }

    /** "with blanks (9, 10, 13, 32) between or not": all else between is a TOKEN of its own, or none. */
    private static void blanks() {
        for (int b = 0; b < 256; b++) {
            boolean blank = b == 9 || b == 10 || b == 13 || b == 32;
            fault(A + (char) b, blank ? 0 : 1, blank ? -1 : 9);
            fault((char) b + A, blank ? 0 : 1, blank ? -1 : 0);
            boolean letter = b >= 'a' && b <= 'z';
            boolean digit = b >= '0' && b <= '9';
            fault("near" + (char) b + "5;", blank || digit ? 0 : 1, blank || digit ? -1 : letter ? 0 : 4);
        }
        good("sock a1;glove b2 3;like a b4;near5;table6;full back;line a right b;seed7;lose=8;");
        good(" \t\r\n sock\t\t\ta\r\n\r\n1\n \n;\n");
        good("lose=if week<1then 2else 3;");
        good("lose=if 1<2then 3else 4;");
        fault("lose=ifweek<2then 3 else 4;", 1, 5);
        fault("lose=if week<1 then2 elseweek;", 1, 21);
        fault("sock a 1 2;", 1, 9);
        fault("near 1 0;", 1, 7);
        fault("so ck a 1;", 1, 0);
    }

    /** "NAMES (letters a .. z": what stands ahead of a and behind z is none. */
    private static void lettersOfNames() {
        for (int b = 0; b < 256; b++) {
            boolean letter = b >= 'a' && b <= 'z';
            boolean blank = b == 9 || b == 10 || b == 13 || b == 32;
            boolean digit = b >= '0' && b <= '9';
            fault("sock q" + (char) b + " 1;", letter || blank ? 0 : 1, letter || blank ? -1 : digit ? 8 : 6);
            fault("sock " + (char) b + ";", 1, letter || blank ? 6 : 5);
        }
        for (char c = 'a'; c <= 'z'; c++) {
            good("sock " + c + " 1; line " + c + ";");
        }
    }

    /** "8 at most": a ninth letter makes it no TOKEN, and each of eight counts. */
    private static void lengthsOfNames() {
        good("sock a 1;");
        good("sock zzzzzzzz 1; line zzzzzzzz;");
        fault("sock zzzzzzzzz 1;", 1, 5);
        fault("sock abcdefghi 1;", 1, 5);
        fault("sock a 1;line abcdefghi;", 1, 14);
        fault("sock " + "q".repeat(100) + " 1;", 1, 5);
        good("sock abcdefgh 1;sock abcdefgi 1;sock abcdefg 1;sock bbcdefgh 1;");
        fault("sock abcdefgh 1;sock abcdefgh 1;", 3, 21);
        fault("sock abcdefgh 1;line abcdefgi;", 4, 21);
        fault("sock abcdefgh 1;line abcdefg;", 4, 21);
        good("sock a 1;sock aa 1;sock aaa 1;sock az 1;sock ba 1;line aa a;");
    }

    /** "none of the words in quotes": what is one letter more, or less, is a NAME. */
    private static void wordsAreNoNames() {
        for (String word : WORDS) {
            fault("sock " + word + " 1;", 1, 5);
            fault("glove " + word + " 1 1;", 1, 6);
            fault("sock a 1;like a " + word + " 1;", 1, 16);
            good("sock " + word + "s 1;");
            good("sock " + word.substring(0, word.length() - 1) + " 1;");
            good("sock z" + word + " 1;");
        }
        for (String word : new String[] {"back", "sock", "if", "week", "line", "there"}) {
            fault("sock a 1;line a " + word + ";", 1, 16);
        }
        for (String var : new String[] {"week", "kind", "there", "all", "lot"}) {
            good("lose=" + var + ";");
            fault("lose=" + var + "x;", 1, 5);
        }
        for (String word : new String[] {"sock", "back", "if", "then", "right", "seed", "a"}) {
            fault("lose=" + "1+" + word + ";", 1, 7);
        }
    }

    /** Digits are 0 to 9 alone. */
    private static void digitsOfInts() {
        for (int b = 0; b < 256; b++) {
            boolean digit = b >= '0' && b <= '9';
            boolean blank = b == 9 || b == 10 || b == 13 || b == 32;
            fault("near 1" + (char) b + ";", digit || blank ? 0 : 1, digit || blank ? -1 : b == ';' ? 7 : 6);
            fault("near " + (char) b + ";", digit ? 0 : 1, digit ? -1 : blank ? 6 : 5);
        }
        CHECK.due("nine and zero", good("near 90;").count(10), 90);
        CHECK.due("zeros ahead", good("near 0009;").count(10), 9);
        CHECK.due("zero and nine", good("near 09;").count(10), 9);
    }

    /** "INTS (1 to 4 digits)": a fifth makes it no TOKEN, whatever its worth. */
    private static void lengthsOfInts() {
        good("near 0;");
        good("near 0000;");
        good("seed 9999;");
        fault("seed 10000;", 1, 5);
        fault("seed 00000;", 1, 5);
        fault("near 00001;", 1, 5);
        fault("sock a 00001;", 1, 7);
        fault("glove a 1 00001;", 1, 10);
        fault("lose=10000;", 1, 5);
        fault("lose=" + "1".repeat(500) + ";", 1, 5);
        fault("near;", 1, 4);
        fault("near ;", 1, 5);
    }

    /** "SIGNS ; = + - * / < ( )": one byte each, and none of them two together. */
    private static void signs() {
        good("lose=(1+2-3)*4/5;");
        good("lose=if(1)<(2)then(3)else(4);");
        fault("lose==1;", 1, 5);
        fault("lose=1;;", 1, 7);
        fault("lose=1<<2;", 1, 6);
        fault("lose=if 1<<2 then 1 else 1;", 1, 10);
        fault("lose=1--1;", 1, 7);
        fault("lose=+1;", 1, 5);
        fault("lose=-1;", 1, 5);
        fault("lose=1*/2;", 1, 7);
        fault("lose=1//2;", 1, 7);
        fault("lose=1/*2*/;", 1, 7);
        fault("lose=if 1>2 then 1 else 1;", 1, 9);
        fault("lose=1%2;", 1, 6);
        fault("=lose 1;", 1, 0);
        for (char c : ";=+-*/<()".toCharArray()) {
            fault("sock " + c + " 1;", 1, 5);
            fault("" + c, 1, 0);
        }
    }

    /** "text: {TELL}": none at all is a text. */
    private static void textOfNothing() {
        CHECK.due("an empty text", good("").count(0), 0);
        CHECK.due("a text of blanks", good(" \t\r\n").count(0), 0);
        SockTable x = Check.told(A);
        CHECK.due("the empty tape is read", x.read(), 0);
        CHECK.due("and is in place of the one ahead", x.count(0), 0);
    }

    /** Each TELL with as little, and as much, as it takes. */
    private static void everyTell() {
        good("sock a 1;sock b 1;glove g 1 1;like a g 1;like g b 2;near 1;table 1;seed 1;");
        for (String way : new String[] {"back", "stop", "few", "many"}) {
            good("full " + way + ";");
        }
        for (String word : WORDS) {
            boolean way = word.equals("back") || word.equals("stop") || word.equals("few") || word.equals("many");
            fault("full " + word + ";", way ? 0 : 1, way ? -1 : 5);
        }
        fault("full a;", 1, 5);
        fault("full 1;", 1, 5);
        fault("full back few;", 1, 10);
        good("line;");
        good("sock a 2;glove g 1 1;line a;line right g;line a a g right g;line right g a;");
        fault("glove g 1 1;line right;", 1, 22);
        fault("glove g 1 1;line right right g;", 1, 23);
        fault("glove g 1 1;line g right;", 1, 24);
        good("lose=1;");
        good("lose=1+1-1+1;");
        good("lose=1*1/1*1;");
        fault("lose=if 1 then 1 else 1;", 1, 10);
        fault("lose=if 1<1 then 1;", 1, 18);
        fault("lose=if 1<1 else 1;", 1, 12);
        fault("lose=if 1<1 then if 1<1 then 1 else 1 else 1;", 1, 17);
        fault("lose=if 1<if 1<1 then 1 else 1 then 1 else 1;", 1, 10);
        fault("lose=1+if 1<1 then 1 else 1;", 1, 7);
        fault("lose=(if 1<1 then 1 else 1);", 1, 6);
        fault("lose=1<1;", 1, 6);
        fault("lose=();", 1, 6);
        fault("lose=(1;", 1, 7);
        fault("lose=1);", 1, 6);
        fault("lose=(1<2);", 1, 7);
        fault("lose 1;", 1, 5);
        fault("seed=1;", 1, 4);
        fault("sock 1 a;", 1, 5);
        fault("glove a 1;", 1, 9);
        fault("glove a 1 1 1;", 1, 12);
        fault("sock a;", 1, 6);
        fault(A + "like a 1;", 1, 16);
        fault(A + "like a a a 1;", 1, 18);
        fault(A + "like a a;", 1, 17);
        fault("table a;", 1, 6);
        fault("seed a;", 1, 5);
        for (String word : WORDS) {
            boolean begins = "sock glove like near table full line seed lose".contains(word);
            fault(word, 1, begins ? word.length() : 0);
            fault(word + " ", 1, begins ? word.length() + 1 : 0);
        }
    }

    /** "(a byte; the text's end: its length)": a text cut off anywhere ends too early, blanks at its end counted. */
    private static void everyCut() {
        String text = "sock a 1 ; glove g 2 3 ; like a g 4 ; near 5 ; table 6 ; full few ; line a right g ; seed 7 ; "
            + "lose = if ( 1 + week ) < 2 then 3 - 4 else 5 * 6 / lot ; ";
        for (int i = 0; i <= text.length(); i++) {
            boolean whole = i == 0 || text.substring(0, i).trim().endsWith(";");
            if (i == text.length() || text.charAt(i) == ' ' || text.charAt(i) == ';') {
                fault(text.substring(0, i), whole ? 0 : 1, whole ? -1 : i);
                fault(text.substring(0, i) + "   ", whole ? 0 : 1, whole ? -1 : i + 3);
            }
        }
    }

    /** "KINDS, 8 at most, numbered from 0 on as they stand", and the fault ROOM at the first TOKEN of what makes more. */
    private static void kinds() {
        String seven = "sock a 0;sock b 0;sock c 0;sock d 0;sock e 0;sock f 0;sock g 0;";
        CHECK.due("8 socks", good(seven + "sock h 0;").count(0), 8);
        fault(seven + "sock h 0;sock i 0;", 2, 72);
        fault(seven + "sock h 0; glove i 0 0;", 2, 73);
        fault(seven + "glove h 0 0;", 2, 63);
        CHECK.due("4 gloves", good("glove a 0 0;glove b 0 0;glove c 0 0;glove d 0 0;").count(0), 8);
        fault("glove a 0 0;glove b 0 0;glove c 0 0;glove d 0 0;sock e 0;", 2, 48);
        fault("glove a 0 0;glove b 0 0;glove c 0 0;glove d 0 0;glove e 0 0;", 2, 48);
        CHECK.due("6 and a glove", good("sock a 0;sock b 0;sock c 0;sock d 0;sock e 0;sock f 0;glove g 0 0;").count(0), 8);
        CHECK.due("3 gloves and 2", good("glove a 0 0;sock b 0;glove c 0 0;sock d 0;glove e 0 0;").count(1), 5);
        fault("glove a 0 0;sock b 0;glove c 0 0;sock d 0;glove e 0 0;sock f 0;", 2, 54);
        fault("glove a 0 0;glove b 0 0;glove c 0 0;sock d 0;glove", 2, 45);
        SockTable x = good("sock a 1;glove b 2 3;sock c 4;");
        int[] names = {0, 1, 1, 2};
        int[] many = {1, 2, 3, 4};
        for (int i = 0; i < 4; i++) {
            CHECK.due("name of " + i, x.kind(i, 5), names[i]);
            CHECK.due("number of " + i, x.kind(i, 2), many[i]);
        }
    }

    /** "so many of it (0 .. 9)", "(0 .. 9 each)". */
    private static void numbers() {
        for (int n = 0; n < 12; n++) {
            boolean taken = n <= 9;
            SockTable x = fault("sock a " + n + ";", taken ? 0 : 5, taken ? -1 : 7);
            CHECK.due("sock a " + n, x.kind(0, 2), taken ? n : -1);
            x = fault("glove a " + n + " 3;", taken ? 0 : 5, taken ? -1 : 8);
            CHECK.due("glove a " + n + " 3", x.kind(0, 2), taken ? n : -1);
            x = fault("glove a 3 " + n + ";", taken ? 0 : 5, taken ? -1 : 10);
            CHECK.due("glove a 3 " + n, x.kind(1, 2), taken ? n : -1);
        }
        fault("sock a 9999;", 5, 7);
        fault("glove a 10 10;", 5, 8);
    }

    /** "PARTNER of a sock's KIND: itself; of LEFT RIGHT, of RIGHT LEFT": also of the last two of eight. */
    private static void partners() {
        SockTable x = good("glove a 1 1;sock b 1;sock c 1;sock d 1;sock e 1;glove f 1 1;");
        int[] partners = {1, 0, 2, 3, 4, 5, 7, 6};
        for (int i = 0; i < 8; i++) {
            CHECK.due("partner of " + i, x.kind(i, 3), partners[i]);
        }
    }

    /** "All together 18 THINGS at most": WRONG at the last INT of what makes more. */
    private static void things() {
        CHECK.due("18", good("sock a 9;sock b 9;").count(2), 18);
        CHECK.due("18", good("sock a 9;sock b 8;sock c 1;sock d 0;").count(2), 18);
        CHECK.due("18", good("glove a 9 9;").count(2), 18);
        CHECK.due("18", good("glove a 9 9;glove b 0 0;sock c 0;").count(2), 18);
        fault("sock a 9;sock b 9;sock c 1;", 5, 25);
        fault("sock a 9;sock b 8;sock c 2;", 5, 25);
        fault("glove a 9 9;sock b 1;", 5, 19);
        fault("glove a 9 9;glove b 1 0;", 5, 22);
        fault("glove a 9 9;glove b 0 1;", 5, 22);
        fault("sock a 9;glove b 9 1;", 5, 19);
        fault("sock a 9;glove b 1 9;", 5, 19);
        fault("sock a 9;sock b 9;glove c 9 9;", 5, 28);
        fault("glove a 9 9;glove b 10 0;", 5, 20);
        fault("glove a 9 9;glove b 0 10;", 5, 22);
        good("sock a 9;glove b 8 1;");
    }

    /** "how UNLIKE two NAMES are (0 .. 99; the last one told; else 100, each to itself 0)". */
    private static void unlike() {
        String two = "sock a 1;sock b 1;";
        for (int n = 0; n < 102; n++) {
            boolean taken = n <= 99;
            SockTable x = fault(two + "like a b " + n + ";", taken ? 0 : 5, taken ? -1 : 27);
            CHECK.due("like a b " + n, x.unlike(1, 0), taken ? n : -1);
        }
        fault(two + "like a b 9999;", 5, 27);
        CHECK.due("not told", good(two).unlike(0, 1), 100);
        CHECK.due("to itself", good(two + "like a b 7;").unlike(1, 1), 0);
        CHECK.due("the last one told", good(two + "like a b 7;like a b 0;").unlike(0, 1), 0);
        CHECK.due("the last one told, the other way round", good(two + "like a b 7;like b a 99;").unlike(0, 1), 99);
        SockTable x = good("sock a 1;sock b 1;glove g 1 1;sock c 1;like g c 3;like c b 4;");
        int[][] due = {{0, 100, 100, 100}, {100, 0, 100, 4}, {100, 100, 0, 3}, {100, 4, 3, 0}};
        for (int i = 0; i < 4; i++) {
            for (int j = 0; j < 4; j++) {
                CHECK.due("unlike(" + i + ", " + j + ")", x.unlike(i, j), due[i][j]);
            }
        }
        x = good("sock a 0;sock b 0;sock c 0;sock d 0;sock e 0;sock f 0;sock g 0;sock h 0;like h a 9;like g h 8;");
        CHECK.due("unlike(0, 7)", x.unlike(0, 7), 9);
        CHECK.due("unlike(7, 6)", x.unlike(7, 6), 8);
        CHECK.due("unlike(0, 6)", x.unlike(0, 6), 100);
    }

    /** "15 at most": a 16th like is ROOM at its first TOKEN, though it tells of the same two. */
    private static void likes() {
        String two = "sock a 1;sock b 1;";
        String like = "like a b 1;";
        good(two + like.repeat(14));
        good(two + like.repeat(15));
        fault(two + like.repeat(16), 2, 18 + 15 * 11);
        fault(two + like.repeat(15) + " like", 2, 18 + 15 * 11 + 1);
        fault(two + like.repeat(15) + "like like", 2, 18 + 15 * 11);
        fault(two + like.repeat(15) + "near 1;" + like, 2, 18 + 15 * 11 + 7);
        fault("like x y 100;".repeat(16), 2, 15 * 13);
        fault("like x y 100;".repeat(15), 4, 5);
        SockTable x = good(two + like.repeat(15));
        CHECK.due("each text by itself", Check.read(x, two + like.repeat(15)), 0);
    }

    /** "NEAR 0 .. 99 (0)". */
    private static void near() {
        for (int n = 0; n < 102; n++) {
            boolean taken = n <= 99;
            CHECK.due("near " + n, fault("near " + n + ";", taken ? 0 : 5, taken ? -1 : 5).count(10), taken ? n : 0);
        }
        fault("near 9999;", 5, 5);
        CHECK.due("not told", good(A).count(10), 0);
        CHECK.due("the last one", good("near 99;near 0;").count(10), 0);
    }

    /** "TABLE: its ROOM, 1 .. 18 (18)". */
    private static void room() {
        for (int n = 0; n < 21; n++) {
            boolean taken = n >= 1 && n <= 18;
            CHECK.due("table " + n, fault("table " + n + ";", taken ? 0 : 5, taken ? -1 : 6).count(6), taken ? n : 18);
        }
        fault("table 9999;", 5, 6);
        fault("table 0000;", 5, 6);
        CHECK.due("not told", good(A).count(6), 18);
        CHECK.due("the last one", good("table 18;table 1;").count(6), 1);
    }

    /** "FULL (stop)". */
    private static void full() {
        CHECK.due("not told", good(A).count(7), 1);
        String[] ways = {"back", "stop", "few", "many"};
        for (int i = 0; i < 4; i++) {
            CHECK.due(ways[i], good("full " + ways[i] + ";").count(7), i);
            CHECK.due("the last one", good("full " + ways[3 - i] + ";full " + ways[i] + ";").count(7), i);
        }
    }

    /** "no more than there are of a KIND, 18 at most (none"; "a glove's NAME alone: a LEFT one". */
    private static void line() {
        CHECK.due("none told", good(A).count(9), 0);
        CHECK.due("an empty one", good(A + "line;").count(9), 0);
        CHECK.due("18", good("sock a 9;sock b 9;line" + " a".repeat(9) + " b".repeat(9) + ";").count(9), 18);
        CHECK.due("18 of gloves", good("glove g 9 9;line" + " right g".repeat(9) + " g".repeat(9) + ";").count(9), 18);
        fault("sock a 9;sock b 9;line" + " a".repeat(9) + " b".repeat(10) + ";", 5, 22 + 37);
        fault("sock a 9;line" + " a".repeat(10) + ";", 5, 13 + 19);
        for (int n = 0; n < 4; n++) {
            String text = "sock a 2;glove g 2 1;";
            boolean taken = n <= 2;
            CHECK.due(n + " of a sock", fault(text + "line" + " a".repeat(n) + ";", taken ? 0 : 5, taken ? -1 : 30).count(9), taken ? n : 0);
            fault(text + "line" + " g".repeat(n) + ";", taken ? 0 : 5, taken ? -1 : 30);
            fault(text + "line right g g g a a" + " a".repeat(n) + ";", n == 0 ? 0 : 5, n == 0 ? -1 : 42);
            taken = n <= 1;
            fault(text + "line" + " right g".repeat(n) + ";", taken ? 0 : 5, taken ? -1 : 25 + 15);
        }
        fault("sock a 0;line a;", 5, 14);
        fault("glove g 0 1;line g;", 5, 17);
        good("glove g 0 1;line right g;");
        fault("glove g 1 0;line right g;", 5, 23);
        good("glove g 1 0;line g;");
        fault("sock a 2;line right a;", 5, 20);
        fault("sock a 2;glove g 1 1;line right g a right a;", 5, 42);
        SockTable x = good("glove g 2 1;line g g;");
        CHECK.due("its NAME alone is a LEFT one: none are rolled", x.line(), 2);
        CHECK.due("a RIGHT one is rolled with it", good("glove g 2 1;line g right g;").line(), 1);
    }

    /** "(none; the last one told)": each line by itself has all THINGS. */
    private static void lineTheLast() {
        CHECK.due("the last one", good("sock a 2;line a a;line a;").count(9), 1);
        CHECK.due("an empty one last", good("sock a 2;line a a;line;").count(9), 0);
        CHECK.due("as much as there is, twice", good("sock a 2;glove g 0 1;line a right g a;line a a right g;").count(9), 3);
        fault("sock a 2;line a a a;line;", 5, 18);
        CHECK.due("a sock behind it", good("sock a 1;line a;sock b 3;").count(9), 1);
        fault("sock a 1;line a b;sock b 3;", 4, 16);
    }

    /** "SEED 0 .. 9999 (0)": every INT is one. */
    private static void seed() {
        String text = "sock a 9;sock b 9;";
        int zero = good(text).evening(500);
        CHECK.due("not told", good(text + "seed 0;").evening(500), zero);
        CHECK.due("the last one", good(text + "seed 9999;seed 0;").evening(500), zero);
        good("seed 9999;");
        fault("seed 10000;", 1, 5);
        int[] lots = lots(text);
        int[] same = lots(text + "seed 3;seed 0;");
        int[] other = lots(text + "seed 9999;");
        boolean alike = true;
        for (int i = 0; i < lots.length; i++) {
            CHECK.due("lot " + i + " of seed 0", same[i], lots[i]);
            alike = alike && lots[i] == other[i];
        }
        CHECK.due("another seed", alike, false);
    }

    private static int[] lots(String text) {
        SockTable x = good(text);
        int[] lots = new int[18];
        for (int i = 0; i < lots.length; i++) {
            lots[i] = x.lot();
        }
        return lots;
    }

    /** "LOSE: a law (0). Of several the last one." */
    private static void lose() {
        CHECK.due("not told", good("sock a 9;").years(200, 0), 9);
        CHECK.due("told", good("sock a 9;lose=1000;").years(1, 0), 0);
        CHECK.due("the last one", good("sock a 9;lose=1000;lose=0;").years(200, 0), 9);
        CHECK.due("the last one", good("sock a 9;lose=if week<9 then 0 else 0;lose=1000;").years(1, 0), 0);
        CHECK.due("a shorter one behind a longer one", good("sock a 9;lose=1000+1-1*(3-3);lose=0;").years(9, 0), 9);
        SockTable x = good("sock a 9;lose=1000;");
        Check.read(x, "sock a 9;");
        CHECK.due("each text by itself", x.years(200, 0), 9);
        good("lose=0;");
        good("lose=9999;");
    }

    /** "a 401st TOKEN": 400 are taken; what is no text at the 401st is SYNTAX. */
    private static void tokensInAll() {
        String most = "near 1;".repeat(132);
        good("near 1;".repeat(133));
        good(most + "line;line;");
        good(most + "line;line;" + " ".repeat(9));
        fault("near 1;".repeat(134), 2, 133 * 7 + 5);
        fault(most + "line;line;near 1;", 2, 934);
        fault(most + "line;line; line", 2, 935);
        fault(most + "line;line;;", 1, 934);
        fault(most + "line;line;a", 1, 934);
        fault(most + "line;line;1", 1, 934);
        fault(most + "line;line;#", 1, 934);
        fault(most + "line;line;abcdefghi", 1, 934);
        fault(most + "line;line;near ;", 2, 934);
        fault(most + "near 1;line ;", 2, 936);
        fault(most + "near 1;line", 1, 935);
        fault(most + "near 1;line ", 1, 936);
        fault(most + "near 1;line 1", 1, 936);
        fault(most + "line;near 100;", 2, 937);
        fault(most + "line;near 1;", 2, 935);
        fault("near 100;" + "near 1;".repeat(132) + "line;", 2, 9 + 132 * 7 + 4);
        fault("near 100;" + "near 1;".repeat(131) + "line;line;", 5, 5);
        StringBuilder law = new StringBuilder("lose=1");
        for (int i = 0; i < 198; i++) {
            law.append("+1");
        }
        good(law + ";");
        fault(law + "+1;", 2, law.length() + 1);
        fault(law + " 1;", 1, law.length() + 1);
        fault(law + "+", 1, law.length() + 1);
    }

    /** "a 5th if (at it)": as many as four, in all of a text. */
    private static void ifs() {
        String one = "if 1<1 then 1 else ";
        good("lose=" + one.repeat(3) + "1;");
        good("lose=" + one.repeat(4) + "1;");
        fault("lose=" + one.repeat(5) + "1;", 2, 5 + 4 * 19);
        fault("lose=" + one.repeat(4) + " if", 2, 5 + 4 * 19 + 1);
        fault("lose=" + one.repeat(4) + "if if", 2, 5 + 4 * 19);
        fault("lose=" + one.repeat(4) + ";", 1, 5 + 4 * 19);
        good("lose=" + one.repeat(2) + "1;lose=" + one.repeat(2) + "1;");
        SockTable x = good("lose=" + one.repeat(4) + "1;");
        CHECK.due("each text by itself", Check.read(x, "lose=" + one.repeat(4) + "1;"), 0);
    }

    /** "a 7th ( within one another (at it)": six are taken, beside one another as many as one likes. */
    private static void brackets() {
        for (int n = 0; n < 9; n++) {
            boolean taken = n <= 6;
            fault("lose=" + "(".repeat(n) + "1" + ")".repeat(n) + ";", taken ? 0 : 2, taken ? -1 : 11);
            fault("lose=2*" + "(".repeat(n) + "1" + ")".repeat(n) + ";", taken ? 0 : 2, taken ? -1 : 13);
        }
        fault("lose=((((((1))))))+((((((1))))));", 0, -1);
        fault("lose=((((((1))))))+(((((((1)))))));", 2, 25);
        good("lose=((((((1)+(2)))))+3);");
        fault("lose=((((((1)+(2)))))+3;", 1, 23);
        fault("lose=(((((((", 2, 11);
        fault("lose=((((((", 1, 11);
        fault("lose=((((((1)))))));", 1, 18);
        fault("lose=((((((1)))));", 1, 17);
        good("lose=((((((1)*(2))*(3))*(4))*(5))*(6))*(7);");
        fault("lose=(((((((1)*(2))*(3))*(4))*(5))*(6))*(7));", 2, 11);
        String six = "((((((1))))))";
        good("lose=if " + six + "<" + six + " then " + six + " else " + six + ";");
        fault("lose=if 1<(((((((1)))))))then 1 else 1;", 2, 16);
        fault("lose=if 1<1 then(((((((1)))))))else 1;", 2, 22);
        good("lose=" + "(1)*".repeat(60) + "(1);");
    }

    /** "of one place the least": SYNTAX ahead of ROOM. */
    private static void leastOfOnePlace() {
        String eight = "glove a 0 0;glove b 0 0;glove c 0 0;glove d 0 0;";
        fault(eight + "socks", 1, 48);
        fault(eight + "sock", 2, 48);
        fault("lose=((((((*", 1, 11);
        fault("near 1;".repeat(132) + "line;line;=", 1, 934);
        fault("near 1;".repeat(132) + "line;near near", 1, 934);
        fault("sock a 1;line right right", 1, 20);
    }

    /** "the first by its place", SYNTAX and ROOM of the whole text ahead of TWICE, NAME and WRONG. */
    private static void firstByPlace() {
        fault("sock a 10;sock a 1;like x y 100;table 0;", 5, 7);
        fault("sock a 1;sock a 10;like x y 100;table 0;", 3, 14);
        fault("sock a 1;like a y 100;sock a 1;", 4, 16);
        fault("sock a 1;like a a 100;sock a 1;like x y 1;", 5, 18);
        fault("sock a 10;sock a 1;like x y 100;table 0;!", 1, 40);
        fault("sock a 10;like x y 1;" + "like x y 1;".repeat(15), 2, 10 + 15 * 11);
        fault("like x x 1;".repeat(16) + "!", 2, 15 * 11);
        fault("!" + "like x x 1;".repeat(16), 1, 0);
        fault("glove g 10 10;", 5, 8);
        fault("glove g 9 10;glove g 0 0;", 5, 10);
        fault("table 0;near 100;", 5, 6);
        fault("near 100;table 0;", 5, 5);
        fault("line x;near 100;", 4, 5);
        fault("near 100;line x;", 5, 5);
        fault("sock a 1;line a a b;", 5, 16);
        fault("sock a 1;line a b a;", 4, 16);
    }

    /** "3 TWICE: a NAME told already. 4 NAME: no such one told ahead (like, line)". */
    private static void twiceAndName() {
        fault("sock a 1;sock a 1;", 3, 14);
        fault("sock a 1;glove a 1 1;", 3, 15);
        fault("glove a 1 1;sock a 1;", 3, 17);
        fault("glove a 1 1;glove a 1 1;", 3, 18);
        good("sock a 1;sock b 1;");
        SockTable x = good(A);
        CHECK.due("told by another text", Check.read(x, A), 0);
        CHECK.due("a text with a fault tells nothing", Check.read(x, "sock b 1;sock c 10;"), 5);
        CHECK.due("not told ahead in this text", Check.read(x, "sock b 1;line a;"), 4);
        CHECK.due("its place", x.place(), 14);
        fault("like a a 1;sock a 1;", 4, 5);
        fault("sock a 1;like a b 1;sock b 1;", 4, 16);
        fault("sock b 1;like a b 1;sock a 1;", 4, 14);
        fault("line a;sock a 1;", 4, 5);
        fault("line right a;", 4, 11);
        good("sock a 1;like a a 1;line a;");
    }

    /** "5 WRONG (at the INT): ...; (at the NAME) ...; (at the last INT of a sock, glove)". */
    private static void wrongPlaces() {
        fault("  sock   a   10  ;", 5, 13);
        fault("  glove  a   10  0 ;", 5, 13);
        fault("  glove  a   0  10 ;", 5, 16);
        fault("sock a 1; like  a  a  100 ;", 5, 22);
        fault("  near   100  ;", 5, 9);
        fault("  table  19  ;", 5, 9);
        fault("  table  0  ;", 5, 9);
        fault("sock a 1; line  right  a ;", 5, 23);
        fault("sock a 1; line  a  a ;", 5, 19);
        fault("glove g 1 1; line  right g  right  g ;", 5, 35);
        fault("sock a 9; sock b 9; sock  c  1 ;", 5, 29);
        fault("sock a 9; sock b 9; glove  c  1  0 ;", 5, 33);
    }

    private static void midway(SockTable x) {
        Check.read(x, "sock a 3;sock b 2;glove c 1 1;sock d 2;like a b 7;near 8;table 2;full few;line a b c;seed 3;lose=if week<3 then 50 else 9;");
        x.draw(0);
        x.hold(1);
        x.draw(1);
        x.draw(2);
        x.draw(0);
        x.lot();
        x.take(3);
        x.see(0, 1);
        x.see(2, 0);
    }

    /** "A text with a FAULT changes nothing but the tape", whichever FAULT, and in whatever state. */
    private static void faultChangesNothing() {
        String[] wrong = {"sock z 9;table 5;full back;near 1;line;seed 4;lose=0", "lose=1000;sock z 9;near;",
            "sock y 1;sock y 2;lose=1000;", "glove a 1 1;like a q 1;", "sock a 9;table 1;full many;seed 9;line a;near 100;",
            "like a b 1;".repeat(16), "lose=(((((((1)))))));", "line a;"};
        int[] faults = {1, 1, 3, 4, 5, 2, 2, 4};
        for (int i = 0; i < wrong.length; i++) {
            String text = wrong[i];
            int due = faults[i];
            SockTable x = new SockTable();
            Check.read(x, "#");
            CHECK.due("read() of " + text, Check.read(x, text), due);
            CHECK.same("a text with the fault " + due, TextBoundaryTest::midway, y -> {
                midway(y);
                y.years(3, 0);
                Check.read(y, text);
                y.years(12, 0);
                Check.read(y, "!");
            }, "place -1", "place 0");
            CHECK.same("a text with the fault " + due + ", nothing told", y -> { }, y -> {
                Check.read(y, text);
                Check.read(y, "!");
            }, "place -1", "place 0");
        }
    }

    /** What went from the tape, or was read, is read no more, whatever the tape holds then. */
    private static void whatWentIsGone() {
        String[] whole = {"socks", "sock abcdefghi", "near 12345", "near 1;;", "sock a 1;x", "sock a 1; "};
        int[] faults = {1, 1, 1, 0, 0, 0};
        int[] places = {4, 13, 9, -1, -1, -1};
        for (int i = 0; i < whole.length; i++) {
            SockTable x = new SockTable();
            Check.feed(x, whole[i]);
            x.back(1);
            CHECK.due("read() of " + whole[i] + " but for the last byte", x.read(), faults[i]);
            CHECK.due("place() of " + whole[i] + " but for the last byte", x.place(), places[i]);
            Check.read(x, "sock aaaaaaaaaaaaaaaaaaaaaaa 11111111111111111111;");
            Check.feed(x, whole[i]);
            x.back(1);
            CHECK.due("read() of it behind a longer one", x.read(), faults[i]);
            CHECK.due("place() of it behind a longer one", x.place(), places[i]);
        }
    }

    /** "else it is in place of the one ahead: all is in the BAG, nothing can be undone, nothing is SEEN, SLOTS hold nothing". */
    private static void goodTakesThePlace() {
        String[] texts = {"", "sock a 3;sock b 2;glove c 1 1;sock d 2;", "sock a 1;glove b 3 2;like a b 3;near 4;table 1;full many;line a;seed 9;lose=9;",
            "sock a 9;sock b 9;lose=50;", "sock a 3;sock b 2;glove c 1 1;sock d 2;lose=900;", "sock a 3;sock b 2;glove d 1 1;sock c 2;like c d 7;lose=9;near 99;"};
        for (String text : texts) {
            CHECK.same("a text behind another: " + text, x -> Check.read(x, text), x -> {
                midway(x);
                x.hold(0);
                x.hold(2);
                x.mosts();
                x.years(200, 0);
                Check.read(x, text);
            }, "", "");
            CHECK.same("a text behind a stopped table: " + text, x -> Check.read(x, text), x -> {
                Check.read(x, "sock a 3;sock b 2;glove c 1 1;sock d 2;table 1;");
                x.draw(0);
                x.draw(1);
                Check.read(x, text);
            }, "", "");
        }
    }
}
