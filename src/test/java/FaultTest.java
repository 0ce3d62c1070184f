/** Promises 2 to 5: the tape, what a text may be, its faults and where they are. */
public final class FaultTest {
    private static final Check CHECK = new Check("FaultTest");

    public static void main(String[] args) {
        tape();
        syntax();
        tokens();
        room();
        twiceNameWrong();
        whichIsFirst();
        faultsChangeNothing();
        goodTextsTakeThePlace();
        CHECK.end();
    }

    private static void fault(String text, int fault, int place) {
        SockTable x = new SockTable();
        Check.feed(x, text);
        CHECK.due("count(11) of " + text, x.count(11), text.length());
        String shown = text.length() > 60 ? text.substring(0, 60) + ".." + text.length() : text;
        CHECK.due("read() of " + shown, x.read(), fault);
        CHECK.due("place() of " + shown, x.place(), place);
        CHECK.due("count(11) after " + shown, x.count(11), 0);
    }

    private static void good(String text) {
        fault(text, 0, -1);
    }

    private static void tape() {
        SockTable x = new SockTable();
        CHECK.due("place() at first", x.place(), -1);
        CHECK.due("back(0)", x.back(0), 0);
        CHECK.due("back(1)", x.back(1), -1);
        CHECK.due("back(-1)", x.back(-1), -1);
        CHECK.due("feed", x.feed(0x736f636b, 0x20612031, 0x3b202020, 0x20202020, 0x20202020), 20);
        CHECK.due("back(21)", x.back(21), -1);
        CHECK.due("back(min)", x.back(Integer.MIN_VALUE), -1);
        CHECK.due("back(max)", x.back(Integer.MAX_VALUE), -1);
        CHECK.due("count(11)", x.count(11), 20);
        CHECK.due("back(11)", x.back(11), 9);
        CHECK.due("read()", x.read(), 0);
        CHECK.due("count(2)", x.count(2), 1);
        for (int i = 1; i <= 100; i++) {
            CHECK.due("feed " + i, x.feed(0x20202020, 0x20202020, 0x20202020, 0x20202020, 0x20202020), 20 * i);
        }
        CHECK.due("feed 101", x.feed(0, 0, 0, 0, 0), -1);
        CHECK.due("count(11)", x.count(11), 2000);
        CHECK.due("back(19)", x.back(19), 1981);
        CHECK.due("feed with 1981", x.feed(0, 0, 0, 0, 0), -1);
        CHECK.due("back(1)", x.back(1), 1980);
        CHECK.due("feed with 1980", x.feed(0xffffffff, 0, 0, 0, 0), 2000);
        CHECK.due("read()", x.read(), 1);
        CHECK.due("place()", x.place(), 1980);
        CHECK.due("the empty tape", x.read(), 0);
        CHECK.due("place()", x.place(), -1);
        CHECK.due("count(2)", x.count(2), 0);
    }

    private static void syntax() {
        good("");
        good("  \t\r\n ");
        good("sock a 1;");
        good("sock a1;");
        good(" sock\ta\r1\n;sock b 0;glove c 2 3;like a b 99;near 0;table 1;full back;full stop;full few;full many;"
            + "line;line a;line c right c a;seed 9999;lose=1;");
        fault("sock a 1", 1, 8);
        fault("sock a 1  ", 1, 10);
        fault("sock", 1, 4);
        fault("sock a ;", 1, 7);
        fault("sock 1 a;", 1, 5);
        fault("sock a 1 2;", 1, 9);
        fault("glove a 1;", 1, 9);
        fault("glove a 1 2 3;", 1, 12);
        fault("socks a 1;", 1, 0);
        fault("a 1;", 1, 0);
        fault(";", 1, 0);
        fault("sock a 1;;", 1, 9);
        fault("sock sock 1;", 1, 5);
        fault("sock there 1;", 1, 5);
        fault("sock right 1;", 1, 5);
        fault("sock a 1; like a a;", 1, 18);
        fault("near a;", 1, 5);
        fault("table;", 1, 5);
        fault("full;", 1, 4);
        fault("full stop few;", 1, 10);
        fault("full line;", 1, 5);
        fault("full full;", 1, 5);
        fault("line right;", 1, 10);
        fault("sock a 2; line a 1;", 1, 17);
        fault("line right right a;", 1, 11);
        fault("seed;", 1, 4);
        fault("lose 1;", 1, 5);
        fault("lose=;", 1, 5);
        fault("lose=1", 1, 6);
        fault("lose=-1;", 1, 5);
        fault("lose=1+;", 1, 7);
        fault("lose=1 2;", 1, 7);
        fault("lose=(1;", 1, 7);
        fault("lose=1);", 1, 6);
        fault("lose=();", 1, 6);
        fault("lose=a;", 1, 5);
        fault("lose=1<2;", 1, 6);
        fault("lose=if 1 then 2 else 3;", 1, 10);
        fault("lose=if 1<2<3 then 2 else 3;", 1, 11);
        fault("lose=if 1<2 then 2;", 1, 18);
        fault("lose=if 1<2 then if 1<2 then 3 else 4 else 5;", 1, 17);
        fault("lose=(if 1<2 then 3 else 4);", 1, 6);
        good("lose=if 1<2 then 2 else if week<kind then 3 else if all<there then 4*(1+lot) else 5/6-7;");
        good("lose=if week<1 then 2 else if week<2 then 3 else week;");
        good("lose = if 1<2 then 3 else if 2<3 then 4 else if 3<4 then 5 else if 4<5 then 6 else 7;");
        fault("lose = if 1<2 then 3 if 2<3 then 4 else 5;", 1, 21);
    }

    private static void tokens() {
        good("sock abcdefgh 1;");
        fault("sock abcdefghi 1;", 1, 5);
        fault("sock aB 1;", 1, 6);
        fault("sock a 1.;", 1, 8);
        fault("Sock a 1;", 1, 0);
        good("sock a 0001;");
        fault("sock a 00001;", 1, 7);
        fault("sock a 1;\u0000", 1, 9);
        fault("sock a\u000b1;", 1, 6);
        fault("sock\u00a0a 1;", 1, 4);
        fault("sock a 1;\u00ff", 1, 9);
        good("sock socks 1; sock soc 1; sock kindx 1;");
        good("sock x 1;like x x 5;");
        fault("lose=1 > 2;", 1, 7);
        fault("lose=1 .", 1, 7);
        fault("socka 1;", 1, 0);
        good("lose=week*kind;");
        fault("lose=weekkind;", 1, 5);
        good("lose=if 1<2then 3else 4;");
    }

    private static void room() {
        StringBuilder nears = new StringBuilder();
        for (int i = 0; i < 132; i++) {
            nears.append("near 1;");
        }
        String many = nears.toString();
        good(many + "line;line;");
        good(many + "line; line ; ");
        fault(many + "near 1;line;", 2, 132 * 7 + 11);
        fault(many + "line;line;line;", 2, 132 * 7 + 10);
        fault(many + "line;line;;", 1, 132 * 7 + 10);
        fault(many + "line;line;!", 1, 132 * 7 + 10);
        fault(many + "near 1;", 0, -1);
        fault(many + "near 1;line", 1, 132 * 7 + 11);
        fault(many + "near 1;near near", 1, 132 * 7 + 12);

        String four = "sock a 0;sock b 0;sock c 0;sock d 0;";
        String four2 = "sock e 0;sock f 0;sock g 0;sock h 0;";
        good(four + four2);
        fault(four + four2 + "sock i 0;", 2, 72);
        fault(four + four2 + "glove", 2, 72);
        fault(four + "sock e 0;sock f 0;sock g 0;glove h 0 0;", 2, 63);
        good(four + "glove e 0 0;glove f 0 0;");
        fault(four + "glove e 0 0;glove f 0 0;sock", 2, 60);
        fault("sock a 1;sock a 1;sock a 1;sock a 1;sock a 1;sock a 1;sock a 1;sock a 1;sock a 1;", 2, 72);

        StringBuilder likes = new StringBuilder("sock a 1;sock b 1;");
        for (int i = 0; i < 15; i++) {
            likes.append("like a b ").append(i).append(';');
        }
        good(likes.toString());
        fault(likes + "like a b 1;", 2, likes.length());
        fault(likes + "like", 2, likes.length());

        String ifs = "lose=if 1<1 then 1 else if 1<1 then 1 else if 1<1 then 1 else if 1<1 then 1 else ";
        good(ifs + "1;");
        fault(ifs + "if 1<1 then 1 else 1;", 2, ifs.length());
        fault(ifs + "1; lose = if 1<1 then 1 else 1;", 2, ifs.length() + 10);
        good("lose=if 1<1 then 1 else 1; lose=if 1<1 then 1 else 1;");

        good("lose=((((((1))))));");
        fault("lose=(((((((1)))))));", 2, 11);
        good("lose=((((((1))))))+((((((1))))))*((((((1))))));");
        good("lose=if ((((((1))))))<((((((1)))))) then ((((((1)))))) else ((((((1))))));");
        fault("lose=if ((((((1))))))<1 then (((1+((2*(3-(4)))))))else 1;", 2, 41);
        fault("lose=((((((1+1)*(2))*((((((2", 2, 23);
    }

    private static void twiceNameWrong() {
        fault("sock a 1;sock a 1;", 3, 14);
        fault("glove a 1 1;sock a 99;", 3, 17);
        fault("sock a 1;glove a 1 1;", 3, 15);
        fault("like a b 1;", 4, 5);
        fault("sock a 1;like a b 1;", 4, 16);
        fault("sock a 1;like a b 1;sock b 1;", 4, 16);
        fault("line a;", 4, 5);
        fault("line right a;", 4, 11);
        fault("sock a 2;line a b;", 4, 16);
        fault("line a;sock a 2;", 4, 5);
        fault("sock a 10;", 5, 7);
        good("sock a 9;");
        fault("glove a 10 1;", 5, 8);
        fault("glove a 1 10;", 5, 10);
        fault("sock a 1;sock b 1;like a b 100;", 5, 27);
        fault("near 100;", 5, 5);
        good("near 99;");
        fault("table 0;", 5, 6);
        good("table 18;");
        fault("table 19;", 5, 6);
        fault("sock a 1;line right a;", 5, 20);
        fault("sock a 1;line a a;", 5, 16);
        fault("sock a 0;line a;", 5, 14);
        good("sock a 2;line a a;line a a;");
        good("glove g 1 2;line g right g right g;");
        fault("glove g 1 2;line g g;", 5, 19);
        fault("glove g 1 2;line right g right g right g;", 5, 39);
        fault("sock a 9;sock b 9;sock c 1;", 5, 25);
        good("sock a 9;sock b 9;sock c 0;");
        fault("glove a 9 9;glove b 1 0;", 5, 22);
        fault("glove a 9 8;glove b 1 1;", 5, 22);
        good("glove a 9 8;glove b 1 0;");
        fault("sock a 9;glove b 9 1;", 5, 19);
        good("lose=9999;");
        good("sock a 1;like a a 0;");
    }

    private static void whichIsFirst() {
        fault("sock a 10;sock a 1;", 5, 7);
        fault("sock a 1;sock a 10;", 3, 14);
        fault("sock a 10;;", 1, 10);
        fault("sock a 10;sock a 1;like x y 100;table 0", 1, 39);
        fault("like x y 100;", 4, 5);
        fault("table 0;near 100;", 5, 6);
        fault("line right x;table 0;", 4, 11);
        fault("sock a 9;sock b 9;sock a 1;", 3, 23);
        fault("sock a 9;sock b 9;sock c 10;", 5, 25);
        fault("glove a 9 9;glove b 10 10;", 5, 20);
        fault("sock a 1;sock b 2; lose = 1 / 0 ; near 100;", 5, 39);
    }

    private static void faultsChangeNothing() {
        SockTable x = Check.told("sock a 3;sock b 2;glove c 1 1;like a b 7;near 8;table 2;full few;line a b;seed 3;lose=500;");
        x.draw(0);
        x.draw(1);
        x.see(0, 1);
        x.hold(1);
        int left = x.years(2, 0);
        int evening = x.evening(500);
        String[] wrong = {"sock a 1;sock z 9;table 5;full back;near 1;line;seed 4;lose=0;near 100;", "sock", "sock y 1;sock y 2;",
            "sock a 1;glove c 1 1;sock b 2;like a b 7;like b c 3;line x;"};
        int[] faults = {5, 1, 3, 4};
        for (int i = 0; i < wrong.length; i++) {
            CHECK.due("read() of " + wrong[i], Check.read(x, wrong[i]), faults[i]);
            int[] counts = {4, 3, 7, 5, 2, 0, 2, 2, 2, 2, 8, 0, 2, 1, 1, -1};
            for (int j = 0; j < counts.length; j++) {
                CHECK.due("count(" + j + ") after a fault", x.count(j), counts[j]);
            }
            CHECK.due("unlike(0, 1)", x.unlike(0, 1), 7);
            CHECK.due("years(2, 0)", x.years(2, 0), left);
            CHECK.due("evening(500)", x.evening(500), evening);
            CHECK.due("line()", x.line(), 2);
            CHECK.due("kind(0, 1)", x.kind(0, 1), 1);
        }
        CHECK.due("place()", x.place(), 57);
        CHECK.due("undo()", x.undo(), true);
        CHECK.due("restore(1)", x.restore(1), true);
    }

    private static void goodTextsTakeThePlace() {
        SockTable x = Check.told("sock a 3;sock b 2;like a b 7;near 8;table 1;full stop;line a b;seed 3;lose=500;");
        x.draw(0);
        x.draw(1);
        CHECK.due("stopped", x.draw(0), 3);
        x.see(0, 1);
        x.hold(0);
        x.hold(1);
        x.take(0);
        x.draw(1);
        x.draw(1);
        CHECK.due("count(5)", x.count(5), 1);
        CHECK.due("read()", Check.read(x, "sock c 1;sock d 2;"), 0);
        int[] counts = {2, 2, 3, 3, 0, 0, 18, 1, 0, 0, 0, 0, 0, 0, 0};
        for (int j = 0; j < counts.length; j++) {
            CHECK.due("count(" + j + ") of the next text", x.count(j), counts[j]);
        }
        CHECK.due("unlike(0, 1)", x.unlike(0, 1), 100);
        CHECK.due("restore(0)", x.restore(0), false);
        CHECK.due("restore(1)", x.restore(1), false);
        CHECK.due("undo()", x.undo(), false);
        CHECK.due("years(9, 2)", x.years(9, 2), -2);
        CHECK.due("draw(0)", x.draw(0), 0);
        CHECK.due("the last one told", Check.read(x, "sock a 3;sock b 2;like a b 3;like b a 4;near 5;near 6;table 7;table 8;"
            + "full few;full many;line a a b;line b;seed 1;seed 2;lose=1000;lose=0;"), 0);
        CHECK.due("unlike(0, 1)", x.unlike(0, 1), 4);
        CHECK.due("unlike(1, 0)", x.unlike(1, 0), 4);
        CHECK.due("near", x.count(10), 6);
        CHECK.due("room", x.count(6), 8);
        CHECK.due("full", x.count(7), 3);
        CHECK.due("line", x.count(9), 1);
        CHECK.due("lose", x.years(3, 0), 5);
        for (int i = 0; i < 3; i++) {
            CHECK.due("each text by itself", Check.read(x, "lose=if 1<1 then 1 else if 1<1 then 1 else if 1<1 then 1 else ((((1))));"
                + "sock a 9;glove g 9 0;like a g 1;like a g 1;like a g 1;like a g 1;like a g 1;like a g 1;"), 0);
        }
        CHECK.due("an empty line", Check.read(x, "sock a 3;line a a;line;"), 0);
        CHECK.due("count(9)", x.count(9), 0);
    }
}
