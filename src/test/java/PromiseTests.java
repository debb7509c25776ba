/** For each promise ordinary calls, the edges that the document names, and wrong inputs, worked out by hand. */
final class PromiseTests extends Bench {
    public static void main(String[] args) {
        newObject();
        state();
        islander();
        set();
        act();
        days();
        daysOfBoats();
        daysOfKin();
        daysOfTown();
        feedAndEnd();
        text();
        faults();
        faultsOfLines();
        of();
        law();
        lawOfTheDay();
        book();
        goes();
        lonely();
        must();
        strokesAndHands();
        wheels();
        ferry();
        glasses();
        level();
        part();
        bells();
        against();
        calendar();
        rope();
        meets();
        hung();
        game();
        undo();
        image();
        imageOfRows();
        look();
        finish("PromiseTests");
    }

    private static void newObject() {
        promise = "1";
        RopeClock x = new RopeClock();
        for (int what = 0; what < 16; what++) {
            due(what == 6 ? 1 : 0, x.look(what));
        }
        due(0, x.fault(0));
        due(-1, x.fault(1));
        due(-2, x.book(0, 0));
        due(false, x.undo());
        due(false, x.image(false));
        due(true, x.end(0));
        due(false, x.end(1));
        due(-1, RopeClock.NONE);
    }

    private static void state() {
        promise = "2";
        RopeClock x = new RopeClock();
        due(0, x.state(Integer.MIN_VALUE));
        due(Integer.MIN_VALUE, x.state(-1));
        due(-1, x.look(10));
        due(-1, x.state(7));
        // A draw: 1664525 times 7 and 1013904223 is 1025555898, whose highest 24 bits are 4006077: 77 of 1000.
        x.islander(10, 0);
        tell(x, 1, "on 0 boat 1 out;");
        tell(x, 0, "leaves 78;");
        x.days(1);
        due(1025555898, x.look(10));
        due(0, x.look(1));
        x.undo();
        due(7, x.look(10));
        tell(x, 0, "leaves 77;");
        x.days(1);
        due(1, x.look(1));
        due(1025555898, x.look(10));
    }

    private static void islander() {
        promise = "3";
        RopeClock x = new RopeClock();
        int[][] bad = {{0, 0}, {201, 0}, {-1, 5}, {1, -1}, {1, 10}, {Integer.MAX_VALUE, 0}, {1, Integer.MIN_VALUE}};
        for (int[] b : bad) {
            due(-1, x.islander(b[0], b[1]));
        }
        for (int i = 0; i < 18; i++) {
            due(i, x.islander(i % 2 == 0 ? 1 : 200, i % 10));
        }
        due(-1, x.islander(5, 5));
        due(18, x.look(0));
        due((1 << 18) - 1, x.look(1));
        due(200, x.of(17, 0));
        due(7, x.of(17, 1));
        due(1, x.of(17, 2));
        due(0, x.of(17, 3));
        due(0, x.of(17, 4));
    }

    private static void set() {
        promise = "4";
        RopeClock x = with(10, 1, 20, 2);
        due(true, x.set(0, 1, 200));
        due(200, x.of(1, 0));
        due(true, x.set(0, 1, 1));
        due(false, x.set(0, 1, 0));
        due(false, x.set(0, 1, 201));
        due(false, x.set(0, 2, 5));
        due(false, x.set(0, -1, 5));
        due(true, x.set(1, 0, 9));
        due(9, x.of(0, 1));
        due(true, x.set(1, 0, 0));
        due(false, x.set(1, 0, 10));
        due(false, x.set(1, 0, -1));
        due(false, x.set(1, 2, 1));
        due(true, x.set(2, -7, 719));
        due(719, x.look(2));
        due(0, x.look(5));
        due(false, x.set(2, 0, 720));
        due(false, x.set(2, 0, -1));
        due(true, x.set(3, 99, -9999));
        due(-9999, x.look(3));
        due(true, x.set(3, 99, 9999));
        due(false, x.set(3, 0, 10000));
        due(false, x.set(3, 0, -10000));
        due(true, x.set(4, 99, 9999));
        due(9999, x.look(7));
        due(false, x.set(4, 0, 10000));
        due(false, x.set(4, 0, -1));
        due(false, x.set(5, 0, 1));
        due(false, x.set(-1, 0, 1));
        due(719, x.look(2));
        due(1, x.of(1, 0));
    }

    private static void act() {
        promise = "5";
        RopeClock x = with(10, 1, 20, 2);
        due(false, x.act(1, 0));
        due(false, x.act(3, 0));
        due(true, x.act(2, 0));
        due(false, x.act(2, 0));
        due(1, x.of(0, 3));
        due(true, x.act(0, 0));
        due(false, x.act(0, 0));
        due(2, x.look(1));
        due(1, x.of(0, 4));
        due(10, x.look(3));
        due(true, x.act(2, 1));
        due(true, x.act(3, 0));
        due(0, x.of(0, 3));
        due(true, x.act(1, 0));
        due(0, x.look(3));
        due(3, x.look(1));
        due(1, x.of(0, 4));
        due(0, x.look(10));
        due(2, x.look(9));
        due(5, x.look(15));
        for (int what = 0; what < 4; what++) {
            due(false, x.act(what, 2));
            due(false, x.act(what, -1));
        }
        due(false, x.act(4, 0));
        due(false, x.act(-1, 0));
        due(5, x.look(15));
        // Sent alone: his kin stay.
        tell(x, 3, "islander 0 kin 1;");
        due(true, x.act(0, 0));
        due(2, x.look(1));
    }

    private static void days() {
        promise = "6";
        RopeClock x = new RopeClock();
        due(-1, x.days(0));
        due(-1, x.days(61));
        due(-1, x.days(-1));
        x.set(3, 0, 1441);
        due(156, x.days(1));
        due(1, x.look(3));
        due(2, x.look(5));
        due(0, x.look(2));
        due(0, x.days(1));
        due(1, x.look(2));
        x.set(2, 0, 59);
        x.set(3, 0, 1);
        due(1, x.days(1));
        x.set(3, 0, 59);
        due(0, x.days(1));
        due(119, x.look(2));
        x.set(2, 0, 719);
        x.set(3, 0, 1);
        due(12, x.days(1));
        due(0, x.look(2));
        due(3, x.look(5));
        x.set(3, 0, -1);
        due(0, x.days(1));
        due(719, x.look(2));
        due(2, x.look(5));
        due(0, x.look(3));
        x.set(3, 0, -1500);
        due(0, x.days(1));
        due(-60, x.look(3));
        due(719, x.look(2));
        due(0, x.look(5));
        due(156 + 1 + 12, x.look(4));
        due(7, x.look(8));
        RopeClock y = new RopeClock();
        for (int i = 0; i < 166; i++) {
            due(0, y.days(60));
        }
        due(-1, y.days(40));
        due(9960, y.look(8));
        due(0, y.days(39));
        due(9999, y.look(8));
        due(-1, y.days(1));
        due(9999, y.look(8));
        due(6, y.look(15));
    }

    private static void daysOfBoats() {
        promise = "6 boats";
        RopeClock x = with(10, 5, 20, 5, 30, 5, 40, 5);
        tell(x, 0, "leaves 1000; returns 1000;");
        tell(x, 1, "on 1 boat 3 out; on 1 boat 1 back; on 3 boat 18 back;");
        x.act(2, 1);
        due(0, x.days(1));
        due(15, x.look(1));
        // 0, 2, 3 go, and 0 comes back by the next boat of the day.
        x.days(1);
        due(0b0011, x.look(1));
        due(10 + 30 + 40 - 10, x.look(2));
        due(6, x.look(9));
        due(1, x.of(0, 4));
        due(0, x.of(1, 4));
        x.days(1);
        due(0b0011, x.look(1));
        x.days(1);
        due(0b1111, x.look(1));
        due(0, x.look(2));
        // No draw is made where there is no chance, no seat is left, or one stays.
        RopeClock y = with(10, 0, 20, 9, 30, 9);
        tell(y, 0, "leaves 1000 when long>0;leaves 0-5;");
        tell(y, 1, "on 0 boat 1 out;");
        y.days(1);
        due(0b101, y.look(1));
        due(1013904223, y.look(10));
        RopeClock z = with(10, 9);
        z.act(2, 0);
        tell(z, 1, "on 0 boat 1 out;");
        z.days(1);
        due(1, z.look(1));
        due(0, z.look(10));
    }

    private static void daysOfKin() {
        promise = "6 kin";
        RopeClock x = with(10, 0, 20, 0, 30, 9, 40, 0, 50, 0);
        tell(x, 0, "leaves 1000 when weight = 30; leaves 0; winds 100 + kin;");
        tell(x, 3, "islander 2 kin 4; islander 0 kin 2; islander 4 kin 1;");
        x.act(2, 0);
        tell(x, 1, "on 0 boat 18 out;");
        x.days(1);
        // 2 goes and his kin 0 (who stays, asked or not) and 4, but not 1, who is 4's kin alone.
        due(0b01010, x.look(1));
        due(2, x.book(0, 2));
        due(102, x.book(0, 3));
        due(0, x.book(1, 2));
        due(100, x.book(1, 3));
        due(4, x.book(2, 2));
        due(101, x.book(2, 3));
        due(303, x.look(2));
        due(1, x.of(4, 4));
        due(1013904223, x.look(10));
        // Kin go while there are seats.
        RopeClock y = with(10, 0, 20, 9, 30, 0);
        tell(y, 0, "leaves 1000;");
        tell(y, 3, "islander 0 kin 2; islander 1 kin 0;");
        tell(y, 1, "on 0 boat 2 out;");
        y.days(1);
        due(0b100, y.look(1));
        due(1, y.book(1, 2));
    }

    private static void daysOfTown() {
        promise = "6 town";
        RopeClock x = with(10, 0, 20, 0);
        due(8, tell(x, 2, "on 0 beg 1; on 0 holiday; on 0 interest 7; on 0 push 125; on 0 interest 99; on 1 free 1;"
                + "on 1 school; on 1 push 719;"));
        due(0, x.days(1));
        due(1, x.of(1, 3));
        due(0, x.look(6));
        due(198, x.look(7));
        due(125, x.look(2));
        due(0, x.look(5));
        due(0, x.look(4));
        due(0, x.days(1));
        due(0, x.of(1, 3));
        due(1, x.look(6));
        due(124, x.look(2));
        due(1, x.look(5));
        // 260 by 60 is 4, and that 5 times.
        RopeClock y = new RopeClock();
        y.set(2, 0, 260);
        y.set(4, 0, 1);
        tell(y, 2, "on 0 interest 5;");
        y.days(1);
        due(21, y.look(7));
        // The town's lines are before the boats', though they be told later.
        RopeClock z = with(10, 9);
        tell(z, 0, "leaves 1000;");
        tell(z, 1, "on 0 boat 1 out;");
        tell(z, 2, "on 0 beg 0;");
        z.days(1);
        due(1, z.look(1));
    }

    private static void feedAndEnd() {
        promise = "7, 8";
        RopeClock x = new RopeClock();
        for (int i = 1; i <= 20; i++) {
            due(20 * i, x.feed(538976288, 538976288, 538976288, 538976288, 538976288));
        }
        due(-1, x.feed(0, 0, 0, 0, 0));
        due(false, x.end(401));
        due(false, x.end(-1));
        due(false, x.end(Integer.MAX_VALUE));
        due(true, x.end(400));
        due(true, x.end(381));
        due(-1, x.feed(0, 0, 0, 0, 0));
        due(true, x.end(380));
        due(false, x.end(381));
        due(400, x.feed(538976288, 538976288, 538976288, 538976288, 538976288));
        due(0, x.text(0));
        due(20, x.feed(0x6C656176, 0x65732031, 0x3B808182, 0xFFFEFDFC, 0));
        due(true, x.end(9));
        due(1, x.text(0));
        due(20, x.feed(0x6C656176, 0x65732031, 0x3B808182, 0xFFFEFDFC, 0));
        due(-1, x.text(0));
        due(9, x.fault(1));
    }

    private static void text() {
        promise = "9";
        RopeClock x = with(10, 1, 20, 2);
        due(2, tell(x, 0, "leaves 1;winds\n2 ;\n"));
        due(1, tell(x, 1, "on 5 boat 1 back;"));
        due(4, tell(x, 2, "on 0 push 1;on 0 interest 1;on 0 interest 99;on 0 push 719;"));
        due(2, tell(x, 1, "on 0 boat 18 out;on 999 boat 1 back;"));
        due(1, tell(x, 1, "on 5 boat 1 back;"));
        due(3, tell(x, 2, "on 5 beg 0;on 999 free 1;on 000 push 0719;"));
        due(2, tell(x, 3, "islander 0 kin 1;islander 1kin 00;"));
        due(-1, tell(x, 4, "leaves 1;"));
        due(0, x.fault(0));
        due(-1, x.fault(1));
        due(20, x.feed(0, 0, 0, 0, 0));
        due(-1, x.text(-1));
        due(2, x.look(11));
        due(1, x.look(12));
        due(3, x.look(13));
        due(2, x.look(14));
        due(16, tell(x, 0, times(16, "winds 1;")));
        due(16, tell(x, 1, times(16, "on 0 boat 1 out;")));
        due(16, tell(x, 2, times(16, "on 0 school;")));
        due(16, tell(x, 3, times(16, "islander 0 kin 1;")));
        due(2, x.of(0, 8));
        due(0, tell(x, 0, " \n "));
        due(0, tell(x, 3, ""));
        due(0, x.of(0, 8));
        due(1, tell(x, 0, "leaves1when not(((not(1=1)or(2=2)and 3=3)));"));
    }

    private static void faults() {
        promise = "10";
        RopeClock x = with(10, 1, 20, 2);
        due(-1, x.fault(2));
        due(-1, x.fault(-1));
        tell(x, 0, "winds 7;");
        faulty(x, 0, "leaves 1", 1, 8);
        faulty(x, 0, "leaves 1 ", 1, 9);
        faulty(x, 0, "leaves 1 2;", 1, 9);
        faulty(x, 0, "leaves 1 when;", 1, 13);
        faulty(x, 0, "leaves 1 when 1;", 1, 15);
        faulty(x, 0, "leaves 1 when 1=1=1;", 1, 17);
        faulty(x, 0, "leaves 1 when (1=1;", 1, 18);
        faulty(x, 0, "leaves 1 when 1=1);", 1, 17);
        faulty(x, 0, "leaves (1);", 1, 7);
        faulty(x, 0, "leaves 1 when (1)=1;", 1, 16);
        faulty(x, 0, "leaves -1;", 1, 7);
        faulty(x, 0, "leaves 1/weight;", 1, 9);
        faulty(x, 0, "leaves 1*/2;", 1, 9);
        faulty(x, 0, "leaves 1/0000;", 2, 9);
        faulty(x, 0, "leaves 1/00000;", 1, 9);
        faulty(x, 0, "leaves 0/1*2/0+;", 2, 13);
        faulty(x, 0, "leaves 1 when 1=1 or;", 1, 20);
        faulty(x, 0, "leaves 1 when 1=1 and or 1=1;", 1, 22);
        faulty(x, 0, "leaves 1 when 1<=1;", 1, 16);
        faulty(x, 0, "leaves 1;;", 1, 9);
        faulty(x, 0, "Leaves 1;", 1, 0);
        faulty(x, 0, "leaves\t1;", 1, 6);
        faulty(x, 0, "leaves 1.", 1, 8);
        faulty(x, 0, "when 1;", 1, 0);
        faulty(x, 0, "leaveswhen 1;", 1, 0);
        faulty(x, 0, "leaves boat;", 1, 7);
        x = with(10, 1, 20, 2);
        tell(x, 0, "winds 7;");
        for (String letter : new String[] {"a", "z", "A", "Z"}) {
            faulty(x, 0, "leaves" + letter + " 1;", 1, 0);
        }
        for (String sign : new String[] {"@", "[", "`", "{", "\u00e9", "\r", ":", "/", ","}) {
            faulty(x, 0, "leaves" + sign + " 1;", 1, 6);
        }
        faulty(x, 0, times(400, ";"), 1, 0);
        faulty(x, 0, "leaves " + times(196, "1+") + "1", 1, 400);
        due(1, tell(x, 0, "leaves  " + times(195, "1+") + "1;"));
        due(196, x.of(0, 5));
        tell(x, 0, "winds 7;");
        faulty(x, 0, "leaves 1;\u0000", 1, 9);
        faulty(x, 0, "leaves 1;\u0001", 1, 9);
        faulty(x, 0, "winds 1 when not not (((not (not 1=1;", 1, 36);
        faulty(x, 0, "winds 1 when not not (((not (not not 1=1;", 3, 33);
        faulty(x, 0, "winds 1 when not not (((not (not (not 1=1;", 3, 33);
        due(1, tell(x, 0, "winds 1 when (((((((not 1=1) and not 1=1) and (1=1)))))) or not not not not not not not not 1=1;"));
        due(0, x.fault(0));
        due(-1, x.fault(1));
    }

    private static void faultsOfLines() {
        promise = "10 lines";
        RopeClock x = with(10, 1, 20, 2);
        faulty(x, 0, times(17, "leaves 1;"), 3, 144);
        faulty(x, 0, times(16, "leaves 1;") + " returns/", 3, 145);
        faulty(x, 0, times(16, "leaves 1;") + " when 1;", 1, 145);
        faulty(x, 0, times(15, "leaves 1;") + "leaves;returns 1;", 1, 141);
        faulty(x, 1, times(16, "on 0 boat 1 out;") + "on", 3, 256);
        faulty(x, 1, times(16, "on 0 boat 1 out;") + "boat", 1, 256);
        faulty(x, 2, times(17, "on 0 school;"), 3, 192);
        faulty(x, 3, times(17, "islander 0 kin 1;"), 3, 272);
        faulty(x, 1, "on 1000 boat 0 up;", 2, 3);
        faulty(x, 1, "on 999 boat 19 out;", 2, 12);
        faulty(x, 1, "on boat 1 out;", 1, 3);
        faulty(x, 1, "on 1 boat out;", 1, 10);
        faulty(x, 1, "on 1 boat 1 out", 1, 15);
        faulty(x, 1, "on 1 boat 1 beg;", 1, 12);
        faulty(x, 1, "on 1 boat 1 out back;", 1, 16);
        faulty(x, 2, "on 0 beg 2;", 2, 9);
        faulty(x, 2, "on 0 free 18;", 2, 10);
        faulty(x, 2, "on 0 free;", 1, 9);
        faulty(x, 2, "on 0 interest 100;", 2, 14);
        faulty(x, 2, "on 0 interest 0;", 2, 14);
        faulty(x, 2, "on 0 push 720;", 2, 10);
        faulty(x, 2, "on 0 push 0;", 2, 10);
        faulty(x, 2, "on 0 on;", 1, 5);
        faulty(x, 2, "on 0 boat 1 out;", 1, 5);
        faulty(x, 2, "on 0 holiday 3;", 1, 13);
        faulty(x, 3, "islander 2 kin 0;", 2, 9);
        faulty(x, 3, "islander 0 kin 2;", 2, 15);
        faulty(x, 3, "islander 1 kin 01;", 2, 15);
        faulty(x, 3, "islander 1 kin 00001;", 1, 15);
        faulty(x, 3, "islander 1 islander 0;", 1, 11);
        faulty(x, 3, "islander 1 kin 0 kin 0;", 1, 17);
        faulty(new RopeClock(), 2, "on 0 beg 0;", 2, 9);
        faulty(new RopeClock(), 3, "islander 0 kin 1;", 2, 9);
    }

    private static void of() {
        promise = "11";
        RopeClock x = with(100, 5, 200, 0, 1, 9);
        int[][] rows = {{100, 5, 1, 0, 0, 400, 100, 250, 6}, {200, 0, 1, 0, 0, 0, 200, 500, 1}, {1, 9, 1, 0, 0, 720, 1, 50, 1}};
        tell(x, 3, "islander 0 kin 1;islander 2 kin 0;islander 0 kin 2;");
        for (int i = 0; i < 3; i++) {
            for (int what = 0; what < 9; what++) {
                due(rows[i][what], x.of(i, what));
            }
        }
        due(-1, x.of(0, 9));
        due(-1, x.of(0, -1));
        due(-1, x.of(3, 0));
        due(-1, x.of(-1, 0));
        due(-1, x.of(Integer.MIN_VALUE, 2));
        tell(x, 0, "leaves 5; returns 6;");
        x.act(0, 0);
        due(5, x.of(0, 5));
        due(6, x.of(0, 7));
        due(0, x.of(0, 2));
        due(1, x.of(0, 4));
    }

    private static void worth(int want, RopeClock x, String sum) {
        due(1, tell(x, 0, "leaves " + sum + ";"));
        due(want, x.of(0, 5));
    }

    private static void so(boolean want, RopeClock x, String when) {
        due(2, tell(x, 0, "returns 1 when " + when + "; returns 0;"));
        due(want ? 1 : 0, x.of(0, 7));
    }

    private static void law() {
        promise = "11 law";
        RopeClock x = with(100, 5, 30, 0);
        worth(1000, x, "1001");
        worth(0, x, "0-1");
        worth(14, x, "2+3*4");
        worth(10, x, "20-3-7");
        worth(6, x, "20/3");
        worth(12, x, "20/3*2");
        worth(13, x, "2*20/3");
        worth(999, x, "1000 - 5/3");
        worth(7, x, "7/1");
        worth(997, x, "0-7*1/2+1000");
        worth(0, x, "8192*8192*32");
        worth(1000, x, "8192*8192*32-1");
        worth(5, x, "8192*8192*64+5");
        x.set(3, 0, -7);
        worth(997, x, "wound/2+1000");
        worth(705, x, "weight*7+long");
        due(1, tell(x, 0, "winds 1000;"));
        due(999, x.of(0, 6));
        due(1, tell(x, 0, "winds 0-1000;"));
        due(0, x.of(0, 6));
        so(true, x, "1=1 or 1=1 and 1=2");
        so(false, x, "(1=1 or 1=1) and 1=2");
        so(true, x, "1=2 and 1=2 or 1=1");
        so(true, x, "not 1=2 and 1=1");
        so(false, x, "not (1=2 or 1=1)");
        so(true, x, "not not 1=1");
        so(false, x, "1<1");
        so(true, x, "1<2");
        so(false, x, "2>2");
        so(true, x, "3>1+1");
        so(true, x, "1=2 or 1=3 or 1=1 and 2=2 and 3=3 or 1=2");
        // The first line with the word whose condition is so; else the law of the clock.
        due(4, tell(x, 0, "leaves 1 when weight=30; winds 3; leaves 2 when long=5; leaves 9;"));
        due(2, x.of(0, 5));
        due(1, x.of(1, 5));
        due(3, x.of(0, 6));
        due(250, x.of(0, 7));
        due(1, tell(x, 0, "leaves 1 when weight=30;"));
        due(400, x.of(0, 5));
    }

    private static void lawOfTheDay() {
        promise = "11 words";
        RopeClock x = with(100, 5, 30, 0, 40, 0);
        tell(x, 3, "islander 0 kin 1; islander 2 kin 0;");
        worth(3, x, "here");
        worth(3, x, "people");
        worth(0, x, "kin");
        worth(1, x, "school");
        x.act(0, 1);
        worth(2, x, "here");
        worth(3, x, "people");
        worth(1, x, "kin");
        x.act(0, 0);
        worth(1, x, "kin");
        worth(1, x, "left");
        x.act(1, 0);
        x.act(0, 0);
        worth(2, x, "left");
        x.act(0, 2);
        worth(0, x, "kin");
        worth(0, x, "here");
        x.set(2, 0, 719);
        worth(719, x, "time");
        x.set(3, 0, -30);
        worth(30, x, "0-wound");
        x.set(3, 0, 9999);
        x.act(1, 0);
        x.act(0, 0);
        tell(x, 0, "winds weight + 5;");
        x.act(1, 1);
        tell(x, 0, "winds weight + 9;");
        x.act(0, 1);
        due(10003, x.look(3));
        worth(999, x, "wound-9000");
        x.set(3, 0, 9999);
        tell(x, 0, "");
        x.act(1, 1);
        x.act(0, 1);
        due(9999, x.look(3));
        tell(x, 0, "winds 900;");
        x.act(1, 0);
        tell(x, 0, "");
        due(9099, x.look(3));
        worth(900, x, "9999-wound");
        x.act(0, 0);
        tell(x, 0, "winds 900;");
        x.act(1, 1);
        x.act(0, 1);
        x.act(1, 1);
        tell(x, 0, "winds 0;");
        x.act(0, 1);
        tell(x, 0, "winds 900;");
        x.set(3, 0, -9999);
        x.act(1, 1);
        due(-10899, x.look(3));
        worth(1, x, "wound+9999+1");
        tell(x, 2, "on 0 holiday;");
        x.set(3, 0, 0);
        x.days(5);
        worth(0, x, "school");
        worth(5, x, "day");
    }

    private static void book() {
        promise = "12";
        RopeClock x = with(100, 5, 30, 0);
        x.days(1);
        row(x, 0, 0, 3, -1, 0);
        x.act(0, 1);
        row(x, 1, 1, 0, 1, 30);
        x.days(1);
        // It ran, but passed no hour: no line.
        due(2, x.look(9));
        x.act(0, 0);
        x.days(1);
        row(x, 2, 2, 0, 0, 100);
        row(x, 3, 2, 2, -1, 3);
        x.act(1, 0);
        row(x, 4, 3, 1, 0, 100);
        x.days(1);
        row(x, 5, 3, 4, -1, 100);
        x.days(1);
        row(x, 6, 4, 3, -1, 30);
        due(7, x.look(9));
        for (int what = 0; what < 4; what++) {
            due(-2, x.book(7, what));
            due(-2, x.book(-1, what));
        }
        due(-2, x.book(0, 4));
        due(-2, x.book(0, -1));
        x.days(60);
        x.days(60);
        due(127, x.look(9));
        x.days(23);
        due(150, x.look(9));
        x.act(0, 0);
        x.days(3);
        due(150, x.look(9));
        row(x, 149, 147, 3, -1, 30);
        due(-2, x.book(150, 0));
        for (int i = 0; i < 4; i++) {
            due(true, x.undo());
        }
        due(150, x.look(9));
        due(true, x.undo());
        due(149, x.look(9));
        due(-2, x.book(149, 0));
    }

    private static void goes() {
        promise = "13";
        RopeClock x = with(100, 5, 50, 6, 200, 7, 40, 9);
        tell(x, 1, "on 1 boat 18 out; on 3 boat 1 back;");
        tell(x, 2, "on 3 interest 10;");
        x.act(2, 3);
        x.state(99);
        // Who leaves at 500 in thought goes for sure (6 is 480, 7 is 560), and who stays stays.
        tell(x, 0, "returns 500;");
        int[][] rows = {{1, 0, 4, 0, 0}, {2, 200, 3, 6, 0}, {3, 200, 3, 6, 0}, {4, 0, 4, 6, 30}, {60, 0, 4, 6, 30}};
        for (int[] r : rows) {
            for (int what = 0; what < 4; what++) {
                due(r[what + 1], x.goes(r[0], what));
            }
        }
        due(-1, x.goes(0, 0));
        due(-1, x.goes(61, 0));
        due(-1, x.goes(1, 4));
        due(-1, x.goes(1, -1));
        due(0, x.look(8));
        due(0, x.look(9));
        due(99, x.look(10));
        due(15, x.look(1));
        due(0, x.of(2, 4));
        due(0, x.look(7));
    }

    private static void lonely() {
        promise = "14";
        due(0, new RopeClock().lonely());
        RopeClock x = with(100, 7, 50, 6);
        due(-1, x.lonely());
        tell(x, 1, "on 0 boat 18 out; on 59 boat 1 out;");
        due(-1, x.lonely());
        tell(x, 0, "leaves 1000 when day=59 or long=7;");
        due(60, x.lonely());
        tell(x, 1, "on 0 boat 18 out; on 60 boat 1 out;");
        tell(x, 0, "leaves 500;");
        due(1, x.lonely());
        tell(x, 0, "leaves 499;");
        due(-1, x.lonely());
        tell(x, 0, "leaves 1000 when day=60;");
        due(-1, x.lonely());
        x.act(0, 0);
        x.act(0, 1);
        due(0, x.lonely());
        due(0, x.look(8));
    }

    private static void must() {
        promise = "15";
        RopeClock x = with(30, 0, 20, 0, 10, 0, 20, 0, 50, 0, 10, 0);
        due(0, x.must(0, 0));
        due(0, x.must(0, 1));
        due(1, x.must(20, 0));
        due(0b10, x.must(20, 1));
        due(2, x.must(40, 0));
        // 30 and 10 (101), 20 and 20 (1010): the least set.
        due(0b101, x.must(40, 1));
        due(6, x.must(140, 0));
        due(63, x.must(140, 1));
        due(-1, x.must(141, 0));
        due(-1, x.must(15, 1));
        due(-1, x.must(-1, 0));
        due(-1, x.must(10000, 0));
        due(-1, x.must(10, 2));
        due(-1, x.must(10, -1));
        x.act(0, 0);
        due(0b10000, x.must(50, 1));
        due(0b1010, x.must(40, 1));
        due(-1, x.must(140, 0));
        tell(x, 0, "winds 0 when weight = 20; winds 999;");
        due(1, x.must(999, 0));
        due(0b100, x.must(999, 1));
        due(3, x.must(2997, 0));
        due(0b110100, x.must(2997, 1));
        due(0, x.must(0, 1));
        RopeClock y = new RopeClock();
        for (int i = 0; i < 18; i++) {
            y.islander(100 + i, 0);
        }
        tell(y, 0, "winds weight*8;");
        due(-1, y.must(9999, 0));
        // 1249 lies above what eleven of them weigh at most and below what twelve weigh at least.
        due(-1, y.must(9992, 0));
        due(11, y.must(8 * 1232, 0));
        due(10, y.must(8 * (1000 + 45), 0));
        due(1023, y.must(8 * (1000 + 45), 1));
    }

    private static void strokesAndHands() {
        promise = "16";
        RopeClock x = new RopeClock();
        due(0, x.strokes(0, 59));
        due(1, x.strokes(0, 60));
        due(0, x.strokes(60, 60));
        due(0, x.strokes(60, 119));
        due(2, x.strokes(60, 120));
        due(78 - 1, x.strokes(60, 59));
        due(78, x.strokes(61, 60));
        due(12, x.strokes(660, 0));
        due(12, x.strokes(719, 0));
        due(66, x.strokes(0, 719));
        due(-1, x.strokes(-1, 0));
        due(-1, x.strokes(0, 720));
        due(-1, x.strokes(0, -1));
        due(-1, x.strokes(720, 5));
        promise = "17";
        due(0, x.hands(0, 0));
        due(11, x.hands(1, 0));
        due(357, x.hands(33, 0));
        due(5, x.hands(65, 0));
        due(11, x.hands(719, 0));
        due(-1, x.hands(-1, 0));
        due(-1, x.hands(720, 0));
        due(1, x.hands(0, 1));
        due(2, x.hands(1, 1));
        due(2, x.hands(359, 1));
        due(1, x.hands(360, 1));
        due(-1, x.hands(361, 1));
        due(-1, x.hands(-1, 1));
        due(-1, x.hands(5, 2));
        due(-1, x.hands(5, -1));
    }

    private static void wheels() {
        promise = "18, 19";
        RopeClock x = new RopeClock();
        for (int what = 0; what < 3; what++) {
            due(0, x.wheels(what));
        }
        due(1, x.wheel(6, true));
        for (int what = 0; what < 3; what++) {
            due(1, x.wheels(what));
        }
        due(-1, x.wheel(5, false));
        due(-1, x.wheel(100, false));
        due(-1, x.wheel(0, false));
        due(-1, x.wheel(-2, false));
        due(2, x.wheel(99, false));
        due(-2, x.wheels(0));
        due(33, x.wheels(1));
        due(33, x.wheels(2));
        due(3, x.wheel(50, true));
        due(4, x.wheel(20, false));
        due(5, x.wheels(0));
        due(33, x.wheels(1));
        due(5, x.wheel(9, false));
        due(-100, x.wheels(0));
        due(297, x.wheels(1));
        due(297, x.wheels(2));
        due(-1, x.wheel(9, false));
        due(-10000000, x.wheels(3));
        due(-10000000, x.wheels(-1));
        due(0, x.wheel(-1, true));
        due(0, x.wheels(1));
        // The second wheel needs ten turns though the last turns with the first.
        x.wheel(7, false);
        x.wheel(70, false);
        x.wheel(7, false);
        due(1, x.wheels(0));
        due(1, x.wheels(1));
        due(10, x.wheels(2));
        x.wheel(-1, false);
        x.wheel(6, false);
        x.wheel(97, false);
        x.wheel(89, false);
        x.wheel(83, false);
        x.wheel(79, false);
        due(97 * 89 * 83 * 79 * 6, x.wheels(2) * 6);
        due(79, x.wheels(1));
    }

    private static void ferry() {
        promise = "20, 21";
        RopeClock x = new RopeClock();
        due(-1, x.couple(6, 0));
        due(-1, x.couple(0, 6));
        due(-1, x.couple(0, -1));
        due(-1, x.couple(-2, 0));
        due(-1, x.couple(2, 2));
        due(1, x.ferry(1, 1));
        due(11, x.ferry(6, 1));
        due(5, x.ferry(6, 2));
        due(3, x.ferry(6, 3));
        due(-1, x.ferry(0, 1));
        due(-1, x.ferry(7, 1));
        due(-1, x.ferry(3, 0));
        due(-1, x.ferry(3, 4));
        due(1, x.couple(0, 1));
        due(2, x.couple(2, 1));
        due(7, x.ferry(3, 1));
        due(3, x.ferry(3, 2));
        due(3, x.couple(0, 2));
        due(-1, x.ferry(3, 1));
        due(4, x.couple(0, 1));
        for (int i = 5; i <= 8; i++) {
            due(i, x.couple(4, 5));
        }
        due(-1, x.couple(3, 5));
        due(3, x.ferry(2, 1));
        due(0, x.couple(-1, 77));
        due(5, x.ferry(3, 1));
        due(1, x.couple(5, 4));
    }

    private static void glasses() {
        promise = "22";
        RopeClock x = new RopeClock();
        due(0, x.glasses(4, 7, 4));
        due(0, x.glasses(4, 7, 7));
        due(1, x.glasses(4, 7, 8));
        // At 7 the glass of 4, turned at 4, has run off 3.
        due(2, x.glasses(4, 7, 10));
        due(1, x.glasses(4, 7, 11));
        due(2, x.glasses(4, 7, 12));
        due(2, x.glasses(7, 11, 15));
        due(2, x.glasses(11, 7, 15));
        due(-1, x.glasses(4, 6, 5));
        due(3, x.glasses(30, 30, 120));
        due(119, x.glasses(1, 1, 120));
        due(-1, x.glasses(30, 30, 119));
        due(-1, x.glasses(2, 30, 1));
        due(-1, x.glasses(0, 5, 5));
        due(-1, x.glasses(31, 5, 5));
        due(-1, x.glasses(5, 0, 5));
        due(-1, x.glasses(5, 31, 5));
        due(-1, x.glasses(5, 5, 0));
        due(-1, x.glasses(5, 5, 121));
    }

    private static void level() {
        promise = "23, 24";
        RopeClock x = new RopeClock();
        due(1, x.level());
        due(-1, x.seat(0));
        due(-1, x.seat(100));
        due(-1, x.seat(-2));
        due(1, x.seat(99));
        due(1, x.level());
        due(2, x.seat(33));
        // 99 at 1 and 33 at -3, or the other way round.
        due(2, x.level());
        for (int i = 3; i <= 7; i++) {
            due(i, x.seat(1));
        }
        due(-1, x.seat(1));
        due(0, x.seat(-1));
        for (int i = 1; i <= 7; i++) {
            due(i, x.seat(5));
        }
        due(5040, x.level());
    }

    private static void part() {
        promise = "25";
        RopeClock x = new RopeClock();
        // 9999 by 70: 142, 1, 5, 2, 1, 3.
        int[] q = {142, 1, 5, 2, 1, 3};
        int[] above = {142, 143, 857, 1857, 2714, 9999};
        int[] below = {1, 1, 6, 13, 19, 70};
        due(6, x.part(9999, 70, 0));
        for (int i = 0; i < 6; i++) {
            due(q[i], x.part(9999, 70, 100 + i));
            due(above[i], x.part(9999, 70, 200 + i));
            due(below[i], x.part(9999, 70, 300 + i));
        }
        for (int what : new int[] {-1, 1, 99, 106, 199, 206, 306, 399, 400, 500, Integer.MAX_VALUE, Integer.MIN_VALUE}) {
            due(-1, x.part(9999, 70, what));
        }
        due(1, x.part(6, 3, 0));
        due(2, x.part(6, 3, 200));
        due(0, x.part(3, 6, 200));
        due(1, x.part(3, 6, 300));
        due(1, x.part(3, 6, 201));
        due(2, x.part(3, 6, 301));
        due(-1, x.part(10000, 1, 0));
        due(-1, x.part(1, 10000, 0));
        due(-1, x.part(1, 0, 0));
        due(-1, x.part(0, 1, 100));
        due(2, x.part(1, 9999, 0));
        due(9999, x.part(1, 9999, 101));
        due(1, x.part(9999, 1, 0));
        due(18, x.part(6765, 4181, 0));
        due(6765, x.part(6765, 4181, 217));
    }

    private static void bells() {
        promise = "26";
        RopeClock x = new RopeClock();
        for (int n = 3; n <= 8; n++) {
            due(2 * n, x.bells(n, 0, -1));
            due(0, x.bells(n, 0, 0));
            due(n - 1, x.bells(n, 1000000 / (2 * n) * (2 * n), n - 1));
        }
        // 01234, 10325, 13052: of five 01234, 10324, 13042.
        int[] second = {1, 3, 0, 4, 2};
        for (int p = 0; p < 5; p++) {
            due(second[p], x.bells(5, 2, p));
            due(second[p], x.bells(5, 999992, p));
        }
        due(-1, x.bells(2, 0, 0));
        due(-1, x.bells(9, 0, 0));
        due(-1, x.bells(5, -1, 0));
        due(-1, x.bells(5, 1000001, 0));
        due(-1, x.bells(5, 0, 5));
        due(-1, x.bells(5, 0, -2));
        due(-1, x.bells(2, 0, -1));
    }

    private static void against() {
        promise = "27";
        RopeClock x = new RopeClock();
        // Of six in round 1, modulo 5: 0 and 1, 2 and 4, 3 with himself: he meets 5.
        int[] six = {1, 0, 4, 5, 2, 3};
        // Of five likewise, but 3 is free.
        int[] five = {1, 0, 4, -1, 2};
        for (int i = 0; i < 6; i++) {
            due(six[i], x.against(6, 1, i));
            due(six[i], x.against(6, 996, i));
        }
        for (int i = 0; i < 5; i++) {
            due(five[i], x.against(5, 1, i));
        }
        due(-1, x.against(5, 1, 5));
        due(-1, x.against(6, 1, 6));
        due(-1, x.against(6, 1, -1));
        due(-1, x.against(6, -1, 0));
        due(-1, x.against(6, 1000, 0));
        due(-1, x.against(1, 0, 0));
        due(-1, x.against(17, 0, 0));
        due(0, x.against(2, 999, 1));
        due(15, x.against(16, 0, 0));
    }

    private static void calendar() {
        promise = "28";
        RopeClock x = new RopeClock();
        due(0, x.calendar(1004, 0, 0));
        due(0, x.calendar(1004, 0, 1));
        due(0, x.calendar(1004, 3, 0));
        due(2424, x.calendar(97400, 9999, 0));
        due(1, x.calendar(97400, 400, 1));
        // 8 by 33: 33 years hold 8, the 5th year the first.
        due(0, x.calendar(8033, 4, 1));
        due(1, x.calendar(8033, 5, 1));
        due(8, x.calendar(8033, 33, 0));
        due(0, x.calendar(1, 9999, 0));
        due(9999 * 399 / 400, x.calendar(399400, 9999, 0));
        due(-1, x.calendar(400400, 1, 0));
        due(-1, x.calendar(1401, 1, 0));
        due(-1, x.calendar(0, 1, 0));
        due(-1, x.calendar(1000, 1, 0));
        due(-1, x.calendar(-1, 1, 0));
        due(-1, x.calendar(-1004, 1, 0));
        due(-1, x.calendar(1004, -1, 0));
        due(-1, x.calendar(1004, 10000, 0));
        due(-1, x.calendar(1004, 1, 2));
        due(-1, x.calendar(1004, 1, -1));
    }

    private static void rope() {
        promise = "29";
        RopeClock x = new RopeClock();
        due(10, x.rope(0, 9, 0));
        due(0, x.rope(0, 9, 1));
        due(3, x.rope(1, 1, 0));
        due(1, x.rope(1, 1, 1));
        due(9 * 1048576 + 1, x.rope(20, 9, 0));
        due(1048575, x.rope(20, 9, 1));
        due(-1, x.rope(-1, 1, 0));
        due(-1, x.rope(21, 1, 0));
        due(-1, x.rope(1, 0, 0));
        due(-1, x.rope(1, 10, 0));
        due(-1, x.rope(1, 1, 2));
        due(-1, x.rope(1, 1, -1));
    }

    private static void meets() {
        promise = "30";
        RopeClock x = new RopeClock();
        due(0, x.meets(0, 5, 0, 7));
        due(499, x.meets(499, 1, 0, 1));
        due(499, x.meets(0, 1, 499, 500));
        due(8, x.meets(2, 3, 3, 5));
        due(5, x.meets(0, 5, 1, 1));
        due(-1, x.meets(0, 4, 1, 6));
        due(-1, x.meets(0, 500, 1, 500));
        // The latest there is: 1 and 498 times 500 is 499 times 499.
        due(499, x.meets(499, 500, 0, 499));
        due(249001, x.meets(1, 500, 0, 499));
        due(-1, x.meets(-1, 1, 0, 1));
        due(-1, x.meets(500, 1, 0, 1));
        due(-1, x.meets(0, 1, -1, 1));
        due(-1, x.meets(0, 1, 500, 1));
        due(-1, x.meets(0, 501, 0, 1));
        due(-1, x.meets(0, 1, 0, 0));
        due(-1, x.meets(0, 1, 0, 501));
    }

    private static void hung() {
        promise = "31, 32";
        RopeClock x = new RopeClock();
        due(-1, x.arm(0, 1));
        due(-1, x.arm(-10, 1));
        due(-1, x.arm(10, 1));
        due(-1, x.arm(1, 0));
        due(-1, x.arm(1, 21));
        due(-1, x.arm(-101, 1));
        due(-1, x.arm(-1, -1));
        due(1, x.arm(-9, 20));
        due(180, x.hung(0));
        due(0, x.hung(1));
        // 20 and 10 on -9 and 4: 20 at 4 and 10 at -9 is -10.
        due(2, x.arm(4, 10));
        due(10, x.hung(0));
        due(10, x.hung(1));
        due(3, x.arm(1, 10));
        due(0, x.hung(0));
        due(102, x.hung(1));
        due(-1, x.hung(2));
        due(-1, x.hung(-1));
        for (int i = 4; i <= 6; i++) {
            due(i, x.arm(9, 20));
        }
        due(-1, x.arm(1, 1));
        due(0, x.arm(-100, 99));
        due(0, x.hung(0));
        due(0, x.hung(1));
        for (int i = 0; i < 6; i++) {
            x.arm(9, 20);
        }
        due(1080, x.hung(0));
        due(12345, x.hung(1));
    }

    private static void game() {
        promise = "33";
        RopeClock x = new RopeClock();
        // By 1 or 2 on 12 hours those lose that have 3, 6, 9, 12 before them.
        for (int h = 0; h < 12; h++) {
            due(h % 3 == 0 ? -1 : 1, x.game(12, 3, h, 0));
            due(h % 3 == 1 ? 2 : 1, x.game(12, 3, h, 1));
        }
        // Just on 0 by more than a round: 10 on a dial of 5, from 0.
        due(1, x.game(5, 512, 0, 0));
        due(10, x.game(5, 512, 0, 1));
        due(0, x.game(4, 2, 3, 0));
        due(2, x.game(4, 2, 3, 1));
        due(1, x.game(4, 2, 2, 0));
        due(-1, x.game(4, 2, 0, 0));
        due(2, x.game(4, 2, 0, 1));
        due(0, x.game(60, 0, 59, 0));
        due(-1, x.game(60, 0, 59, 1));
        due(-10, x.game(1, 1, 0, 0));
        due(-10, x.game(61, 1, 0, 0));
        due(-10, x.game(5, -1, 0, 0));
        due(-10, x.game(5, 1024, 0, 0));
        due(-10, x.game(5, 1, 5, 0));
        due(-10, x.game(5, 1, -1, 0));
        due(-10, x.game(5, 1, 0, 2));
        due(-10, x.game(5, 1, 0, -1));
        due(-10, x.game(61, 0, 0, 1));
    }

    private static void undo() {
        promise = "34";
        RopeClock x = with(100, 9, 30, 0);
        due(false, x.undo());
        x.set(3, 0, 5000);
        x.days(60);
        due(6, x.look(15));
        for (int i = 0; i < 6; i++) {
            due(true, x.undo());
            due(59 - i, x.look(8));
        }
        due(false, x.undo());
        due(54, x.look(8));
        x.act(0, 0);
        x.act(1, 0);
        x.act(2, 1);
        x.act(3, 1);
        due(4, x.look(15));
        // What is told for thought, the law, kin, the tape, the image taken, and what fails, forget nothing.
        due(1, x.wheel(9, false));
        due(1, x.couple(1, 2));
        due(1, x.seat(9));
        due(1, x.arm(1, 1));
        due(1, tell(x, 0, "winds 7;"));
        due(1, tell(x, 3, "islander 0 kin 1;"));
        due(true, x.image(true));
        due(-1, x.islander(0, 0));
        due(false, x.set(2, 0, 720));
        due(false, x.act(3, 1));
        due(-1, x.days(0));
        due(-1, tell(x, 1, "on"));
        due(-1, tell(x, 2, "on"));
        due(-1, x.text(4));
        due(4, x.look(15));
        due(true, x.undo());
        due(1, x.of(1, 3));
        due(true, x.undo());
        due(0, x.of(1, 3));
        due(true, x.undo());
        due(2, x.look(1));
        due(100, x.look(3));
        due(true, x.undo());
        due(3, x.look(1));
        due(0, x.of(0, 4));
        due(0, x.look(3));
        due(1, x.look(11));
        due(2, x.of(0, 8));
        due(1, x.wheels(0));
        forgets();
    }

    private static void forgets() {
        for (int what = 0; what < 7; what++) {
            RopeClock x = with(100, 9);
            x.image(true);
            x.act(2, 0);
            due(1, x.look(15));
            if (what == 0) {
                x.state(0);
            } else if (what == 1) {
                x.islander(1, 1);
            } else if (what == 2) {
                x.set(2, 0, 0);
            } else if (what == 3) {
                x.text(1);
            } else if (what == 4) {
                x.text(2);
            } else if (what == 5) {
                x.image(false);
            } else {
                x.set(0, 0, 100);
            }
            due(0, x.look(15));
            due(false, x.undo());
        }
    }

    private static void image() {
        promise = "35";
        RopeClock x = with(100, 9, 30, 0);
        due(false, x.image(false));
        tell(x, 0, "winds 7;");
        tell(x, 1, "on 5 boat 1 out;");
        tell(x, 2, "on 6 school;on 7 holiday;");
        tell(x, 3, "islander 0 kin 1;");
        x.wheel(9, false);
        x.couple(0, 1);
        x.seat(9);
        x.arm(2, 3);
        x.state(5);
        x.act(0, 0);
        put(x, "on");
        x.text(1);
        put(x, "leaves");
        due(true, x.image(true));
        due(1, x.look(15));
        x.act(2, 1);
        for (int again = 0; again < 2; again++) {
            x.islander(3, 3);
            x.set(0, 0, 5);
            x.days(10);
            tell(x, 0, "");
            tell(x, 1, "");
            tell(x, 2, "");
            tell(x, 3, "");
            x.wheel(-1, false);
            x.couple(-1, 0);
            x.seat(-1);
            x.arm(-100, 0);
            due(-1, tell(x, 2, "oh"));
            x.feed(1, 2, 3, 4, 5);
            x.days(1);
            due(true, x.image(false));
            int[] looks = {2, 2, 0, 7, 0, 0, 1, 0, 0, 1, 5, 1, 1, 2, 1, 0};
            for (int what = 0; what < 16; what++) {
                due(looks[what], x.look(what));
            }
            due(100, x.of(0, 0));
            due(0, x.of(1, 3));
            due(7, x.of(1, 6));
            due(2, x.of(0, 8));
            due(0, x.book(0, 1));
            due(1, x.wheels(0));
            due(3, x.ferry(2, 1));
            due(6, x.hung(0));
            due(2, x.seat(9));
            // The tape and the fault are not of it.
            due(true, x.end(20));
            due(1, x.fault(0));
            due(0, x.fault(1));
            due(false, x.undo());
        }
    }

    private static void imageOfRows() {
        promise = "35 rows";
        RopeClock x = with(100, 9, 30, 0);
        tell(x, 0, "leaves 1;winds 2;");
        x.couple(0, 1);
        x.couple(1, 2);
        x.wheel(10, false);
        x.wheel(20, true);
        x.wheel(40, false);
        x.seat(1);
        x.seat(1);
        x.arm(2, 3);
        x.days(1);
        x.act(0, 1);
        x.image(true);
        // Other rows at the same places, which the image must not take over.
        x.undo();
        x.undo();
        x.act(0, 0);
        x.days(1);
        tell(x, 0, "winds 5 when long=0;");
        x.couple(-1, 0);
        x.couple(3, 4);
        x.couple(4, 5);
        x.wheel(-1, false);
        x.wheel(11, false);
        x.wheel(99, false);
        x.wheel(12, false);
        x.seat(-1);
        x.seat(5);
        x.seat(3);
        x.arm(-100, 0);
        x.arm(7, 7);
        x.image(false);
        row(x, 0, 0, 3, -1, 0);
        row(x, 1, 1, 0, 1, 2);
        due(1, x.of(0, 5));
        due(2, x.of(0, 6));
        due(7, x.ferry(3, 1));
        due(-1, x.wheels(0));
        due(2, x.wheels(1));
        due(6, x.level());
        due(6, x.hung(0));
    }

    private static void look() {
        promise = "36";
        RopeClock x = with(100, 9, 30, 0);
        due(-100000, x.look(-1));
        due(-100000, x.look(16));
        due(-100000, x.look(Integer.MIN_VALUE));
        x.state(-5);
        x.set(2, 0, 700);
        x.set(3, 0, -12);
        x.set(4, 0, 44);
        tell(x, 0, "leaves 0;winds 1;returns 2;");
        tell(x, 1, "on 1 boat 2 out;on 2 boat 1 back;");
        tell(x, 2, "on 0 holiday;");
        tell(x, 3, "islander 0 kin 1;");
        x.act(0, 1);
        int[] looks = {2, 1, 700, -11, 0, 0, 1, 44, 0, 1, -5, 3, 2, 1, 1, 1};
        for (int what = 0; what < 16; what++) {
            due(looks[what], x.look(what));
        }
        x.days(1);
        int[] then = {2, 1, 689, 0, 0, 0, 0, 44, 1, 2, -5, 3, 2, 1, 1, 2};
        for (int what = 0; what < 16; what++) {
            due(then[what], x.look(what));
        }
    }
}
