/**
 * Parts 1 and 3 of the terms, and the promises about the island: each sentence that names a bound, on either side
 * of it. The sentence stands as the name of its test.
 */
final class IslandEdgeTests extends Bench {
    public static void main(String[] args) {
        drawWraps();
        drawIsBelow();
        islandersAreEighteen();
        islanderAtFirst();
        weightAndLong();
        setTimeWoundDue();
        setOneAlone();
        setAnotherWhat();
        actByHand();
        actOnTheEnds();
        windsIsAskedThen();
        daysAreSixty();
        dayIsAtMost9999();
        clockRuns1440();
        minuteForwards();
        minuteBackwards();
        push();
        interest();
        townOfTheDay();
        townDoesItAgain();
        lastDayOfTexts();
        boatHasSeats();
        boatAsks();
        boatBackAsks();
        boatsByLines();
        boatWithoutPeople();
        kinWhileSeats();
        kinByNumber();
        tapeHas400();
        tapeEnds();
        tapeOrder();
        finish("IslandEdgeTests");
    }

    /** A day with one boat out, drawn from this state, for one who leaves by so many of 1000. */
    private static RopeClock drawn(int state, int leaves) {
        RopeClock x = with(10, 0);
        tell(x, 0, "leaves " + leaves + ";");
        tell(x, 1, "on 0 boat 1 out;");
        x.state(state);
        x.days(1);
        return x;
    }

    private static void drawWraps() {
        promise = "ints, which wrap; its highest 24 bits (without sign) modulo m";
        // The state before, the state behind the draw, and the draw: 16777215, 8388608, 8388607 modulo 1000.
        int[][] rows = {{653637408, -1, 215}, {-1512697883, Integer.MIN_VALUE, 608},
            {-1493846240, Integer.MAX_VALUE, 607}, {Integer.MAX_VALUE, -1135243950, 0}, {Integer.MIN_VALUE, -1133579425, 0}};
        for (int[] r : rows) {
            due(r[1], drawn(r[0], 1).look(10));
        }
        for (int i = 0; i < 3; i++) {
            due(1, drawn(rows[i][0], rows[i][2]).look(1));
            due(0, drawn(rows[i][0], rows[i][2] + 1).look(1));
        }
    }

    private static void drawIsBelow() {
        promise = "a DRAW of 1000: below it he goes aboard";
        // States whose draw is 0 (twice: the lowest 8 bits count for nothing), 1, 999 and, of 1000 itself, 0.
        due(0, drawn(634785765, 1).look(1));
        due(0, drawn(122584096, 1).look(1));
        due(1, drawn(103732453, 1).look(1));
        due(0, drawn(103732453, 2).look(1));
        due(1, drawn(-1606495515, 999).look(1));
        due(0, drawn(-1606495515, 1000).look(1));
        due(0, drawn(-2137548827, 1).look(1));
        // At 0 there is no draw, whatever it would be.
        due(634785765, drawn(634785765, 0).look(10));
        due(1, drawn(634785765, 0).look(1));
    }

    private static void islandersAreEighteen() {
        promise = "ISLANDERS 0 .. 17 as they come; NONE if there are eighteen";
        RopeClock x = new RopeClock();
        for (int i = 0; i < 17; i++) {
            due(i, x.islander(1, 0));
        }
        due(17, x.look(0));
        due(-1, x.of(17, 0));
        due(17, x.islander(200, 9));
        due(18, x.look(0));
        due(200, x.of(17, 0));
        due(-1, x.of(18, 0));
        due(-1, x.islander(1, 0));
        due(-1, x.islander(200, 9));
        due(18, x.look(0));
        due((1 << 18) - 1, x.look(1));
    }

    private static void islanderAtFirst() {
        promise = "HERE 1 at first, STAYS 0 at first, LEFT 0 at first";
        RopeClock x = new RopeClock();
        x.islander(3, 4);
        x.act(0, 0);
        x.act(2, 0);
        x.islander(5, 6);
        int[] first = {3, 4, 0, 1, 1, 320, 3, 300, 0};
        int[] second = {5, 6, 1, 0, 0, 480, 5, 200, 0};
        for (int what = 0; what < 9; what++) {
            due(first[what], x.of(0, what));
            due(second[what], x.of(1, what));
        }
        // One who comes where one was before the image is a new one.
        RopeClock y = new RopeClock();
        y.image(true);
        y.islander(7, 7);
        y.act(0, 0);
        y.act(2, 0);
        y.image(false);
        due(0, y.islander(8, 8));
        int[] anew = {8, 8, 1, 0, 0, 640, 8, 100, 0};
        for (int what = 0; what < 9; what++) {
            due(anew[what], y.of(0, what));
        }
    }

    private static void weightAndLong() {
        promise = "WEIGHT 1 .. 200, LONG 0 .. 9";
        bounds(1, 200, -1, v -> new RopeClock().islander(v, 0));
        bounds(1, 200, -1, v -> new RopeClock().islander(v, 9));
        bounds(0, 9, -1, v -> new RopeClock().islander(1, v));
        bounds(0, 9, -1, v -> new RopeClock().islander(200, v));
        bounds(1, 200, 0, v -> town(1).set(0, 0, v) ? 1 : 0);
        bounds(0, 9, 0, v -> town(1).set(1, 0, v) ? 1 : 0);
        bounds(0, 0, 0, who -> town(1).set(0, who, 1) ? 1 : 0);
        bounds(0, 0, 0, who -> town(1).set(1, who, 1) ? 1 : 0);
        RopeClock x = town(18);
        bounds(0, 17, 0, who -> x.set(0, who, 9) ? 1 : 0);
        bounds(0, 17, 0, who -> x.set(1, who, 9) ? 1 : 0);
        due(9, x.of(17, 0));
        due(9, x.of(0, 1));
        due(3, x.of(2, 0));
        RopeClock nobody = new RopeClock();
        due(false, nobody.set(0, 0, 1));
        due(false, nobody.set(1, 0, 1));
    }

    private static void setTimeWoundDue() {
        promise = "2 TIME, 3 WOUND (-9999 .. 9999), 4 DUE (0 .. 9999; who not asked)";
        int[][] rows = {{2, 0, 719, 2}, {3, -9999, 9999, 3}, {4, 0, 9999, 7}};
        for (int[] r : rows) {
            bounds(r[1], r[2], 0, v -> new RopeClock().set(r[0], 0, v) ? 1 : 0);
            for (int who : new int[] {-1, 0, 17, 18, Integer.MIN_VALUE, Integer.MAX_VALUE}) {
                RopeClock x = new RopeClock();
                due(true, x.set(r[0], who, r[2]));
                due(r[2], x.look(r[3]));
                due(true, x.set(r[0], who, r[1]));
                due(r[1], x.look(r[3]));
                due(false, x.set(r[0], who, r[1] - 1));
                due(false, x.set(r[0], who, r[2] + 1));
                due(r[1], x.look(r[3]));
            }
        }
    }

    private static void setOneAlone() {
        promise = "set: what 0 WEIGHT, 1 LONG, 2 TIME, 3 WOUND, 4 DUE: that and nothing else";
        for (int what = 0; what < 5; what++) {
            RopeClock x = with(5, 5, 6, 6);
            int[] told = {5, 5, 0, 0, 0};
            due(true, x.set(what, 0, 9));
            told[what] = 9;
            due(told[0], x.of(0, 0));
            due(told[1], x.of(0, 1));
            due(told[2], x.look(2));
            due(told[3], x.look(3));
            due(told[4], x.look(7));
            due(6, x.of(1, 0));
            due(6, x.of(1, 1));
            due(0, x.look(5));
        }
    }

    private static void setAnotherWhat() {
        promise = "set: false if another what";
        bounds(0, 4, 0, what -> town(1).set(what, 0, 1) ? 1 : 0);
    }

    private static void actByHand() {
        promise = "SEND one who is HERE (STAY or not), FETCH one who is not, BEG one who does not STAY, FREE one who does";
        // Of the four ways one can be, what can be done: rows of HERE, STAYS, and SEND, FETCH, BEG, FREE.
        boolean[][] can = {{true, false, true, false}, {true, false, false, true}, {false, true, true, false},
            {false, true, false, true}};
        for (int way = 0; way < 4; way++) {
            for (int what = 0; what < 4; what++) {
                RopeClock x = town(2);
                if (way % 2 == 1) {
                    x.act(2, 1);
                }
                if (way / 2 == 1) {
                    x.act(0, 1);
                }
                int kept = x.look(15);
                due(can[way][what], x.act(what, 1));
                due(kept + (can[way][what] ? 1 : 0), x.look(15));
                boolean here = way / 2 == 0;
                boolean stays = way % 2 == 1;
                due(can[way][what] && what < 2 ? what : here ? 1 : 0, x.of(1, 2));
                due(can[way][what] && what > 1 ? 3 - what : stays ? 1 : 0, x.of(1, 3));
                due(1, x.of(0, 2));
                due(0, x.of(0, 3));
            }
        }
    }

    private static void actOnTheEnds() {
        promise = "act: false if it can't be, or another what";
        for (int people : new int[] {1, 18}) {
            bounds(0, people - 1, 0, who -> town(people).act(0, who) ? 1 : 0);
            bounds(0, people - 1, 0, who -> town(people).act(2, who) ? 1 : 0);
            RopeClock x = town(people);
            for (int i = 0; i < people; i++) {
                due(true, x.act(0, i));
            }
            due(0, x.look(1));
            due(people * (people + 1) / 2, x.look(3));
            due(true, x.act(1, people - 1));
            due(1 << people - 1, x.look(1));
        }
        for (int what : new int[] {-1, 4, Integer.MIN_VALUE, Integer.MAX_VALUE}) {
            due(false, town(1).act(what, 0));
        }
        for (int what = 0; what < 4; what++) {
            due(false, new RopeClock().act(what, 0));
        }
    }

    private static void windsIsAskedThen() {
        promise = "not HERE, LEFT one more, winds is asked, WOUND so much more; he is HERE, winds is asked, so much less";
        RopeClock x = town(3);
        tell(x, 0, "winds here*100 + left*10;");
        due(true, x.act(0, 1));
        due(210, x.look(3));
        row(x, 0, 0, 0, 1, 210);
        due(true, x.act(1, 1));
        due(210 - 310, x.look(3));
        row(x, 1, 0, 1, 1, 310);
        due(1, x.of(1, 4));
        // What is wound lies within 0 .. 999 each time, but WOUND has no bound by hand.
        RopeClock y = town(2);
        tell(y, 0, "winds 1000;");
        y.set(3, 0, 9999);
        due(true, y.act(0, 0));
        due(10998, y.look(3));
        due(true, y.act(0, 1));
        due(11997, y.look(3));
        y.set(3, 0, -9999);
        due(true, y.act(1, 0));
        due(-10998, y.look(3));
        tell(y, 0, "winds 0-1;");
        due(true, y.act(1, 1));
        due(-10998, y.look(3));
        row(y, 3, 0, 1, 1, 0);
    }

    private static void daysAreSixty() {
        promise = "DAYS go by (1 .. 60)";
        bounds(1, 60, -1, n -> new RopeClock().days(n));
        for (int n : new int[] {1, 60}) {
            RopeClock x = new RopeClock();
            due(0, x.days(n));
            due(n, x.look(8));
        }
        // How many strokes: of these days alone.
        RopeClock x = new RopeClock();
        x.set(3, 0, 9999);
        due(156, x.days(1));
        due(156, x.days(1));
        // Four whole days more, and 1359 minutes: once round and ten hours.
        due(4 * 156 + 78 + 55, x.days(60));
        due(0, x.days(60));
    }

    private static void dayIsAtMost9999() {
        promise = "NONE, and nothing is done, if DAY would be above 9999";
        RopeClock x = town(1);
        for (int i = 0; i < 165; i++) {
            x.days(60);
        }
        x.days(39);
        due(9939, x.look(8));
        x.image(true);
        due(0, x.days(60));
        due(9999, x.look(8));
        due(-1, x.days(1));
        due(-1, x.days(60));
        due(9999, x.look(8));
        due(true, x.image(false));
        due(0, x.days(1));
        x.set(3, 0, 100);
        x.act(2, 0);
        due(-1, x.days(60));
        due(9940, x.look(8));
        due(100, x.look(3));
        due(0, x.look(2));
        due(1, x.look(15));
        due(1, x.days(59));
        due(9999, x.look(8));
        // In thought nothing stops at the last day: what a day is there, n days on can be told.
        x.set(3, 0, 120);
        due(-1, x.days(1));
        due(220, x.goes(1, 0));
        due(220, x.goes(60, 0));
        due(-1, x.lonely());
        due(9999, x.look(8));
    }

    private static void clockRuns1440() {
        promise = "THE CLOCK runs 1440 minutes at most, as many as WOUND has (below 0 as many back)";
        // WOUND, and behind a day TIME, WOUND, TURNS, STRUCK.
        int[][] rows = {{0, 0, 0, 0, 0}, {1, 1, 0, 0, 0}, {-1, 719, 0, -1, 0}, {1439, 719, 0, 1, 144},
            {1440, 0, 0, 2, 156}, {1441, 0, 1, 2, 156}, {9999, 0, 8559, 2, 156}, {-1439, 1, 0, -2, 0},
            {-1440, 0, 0, -2, 0}, {-1441, 0, -1, -2, 0}, {-9999, 0, -8559, -2, 0}, {720, 0, 0, 1, 78}, {719, 719, 0, 0, 66},
            {-720, 0, 0, -1, 0}, {-719, 1, 0, -1, 0}};
        for (int[] r : rows) {
            RopeClock x = new RopeClock();
            x.set(3, 0, r[0]);
            due(r[4], x.days(1));
            due(r[1], x.look(2));
            due(r[2], x.look(3));
            due(r[3], x.look(5));
            due(r[4], x.look(4));
            due(1, x.look(8));
        }
    }

    /** TIME and WOUND before a day; then TIME, TURNS and STRUCK behind it. */
    private static void runs(int time, int wound, int then, int turns, int struck) {
        RopeClock x = new RopeClock();
        x.set(2, 0, time);
        x.set(3, 0, wound);
        due(struck, x.days(1));
        due(then, x.look(2));
        due(turns, x.look(5));
        due(struck, x.look(4));
        due(0, x.look(3));
    }

    private static void minuteForwards() {
        promise = "TIME one more (over 719: 0, TURNS one more), is it by 60: it strikes TIME by 60 times (12, if that is 0)";
        runs(718, 1, 719, 0, 0);
        runs(719, 1, 0, 1, 12);
        runs(718, 2, 0, 1, 12);
        runs(719, 60, 59, 1, 12);
        runs(719, 61, 60, 1, 13);
        runs(0, 59, 59, 0, 0);
        runs(0, 60, 60, 0, 1);
        runs(59, 1, 60, 0, 1);
        runs(60, 1, 61, 0, 0);
        runs(60, 59, 119, 0, 0);
        runs(60, 60, 120, 0, 2);
        runs(659, 1, 660, 0, 11);
        runs(660, 59, 719, 0, 0);
        runs(1, 719, 0, 1, 78);
        runs(0, 720, 0, 1, 78);
        runs(1, 718, 719, 0, 66);
    }

    private static void minuteBackwards() {
        promise = "backwards: TIME one less (below 0: 719, TURNS one less), no strokes";
        runs(1, -1, 0, 0, 0);
        runs(0, -1, 719, -1, 0);
        runs(1, -2, 719, -1, 0);
        runs(61, -1, 60, 0, 0);
        runs(60, -60, 0, 0, 0);
        runs(719, -719, 0, 0, 0);
        runs(719, -720, 719, -1, 0);
        runs(0, -720, 0, -1, 0);
        runs(0, -721, 719, -2, 0);
    }

    private static void push() {
        promise = "push: TIME N on, without strokes (over 719 TURNS one more)";
        // TIME before, N, TIME behind, TURNS.
        int[][] rows = {{0, 719, 719, 0}, {1, 719, 0, 1}, {719, 719, 718, 1}, {718, 1, 719, 0}, {719, 1, 0, 1}, {0, 1, 1, 0},
            {59, 1, 60, 0}, {360, 359, 719, 0}, {360, 360, 0, 1}};
        for (int[] r : rows) {
            RopeClock x = new RopeClock();
            x.set(2, 0, r[0]);
            due(1, tell(x, 2, "on 0 push " + r[1] + ";"));
            due(0, x.days(1));
            due(r[2], x.look(2));
            due(r[3], x.look(5));
            due(0, x.look(4));
            // It was pushed, but it did not run.
            due(1, x.look(9));
            row(x, 0, 0, 3, -1, r[2]);
        }
        RopeClock full = new RopeClock();
        due(16, tell(full, 2, times(16, "on 0 push 719;")));
        due(0, full.days(1));
        due(16 * 719 % 720, full.look(2));
        due(16 * 719 / 720, full.look(5));
    }

    private static void interest() {
        promise = "interest: DUE N times TIME by 60 more (quotients go downwards)";
        int[][] rows = {{0, 99, 0}, {59, 99, 0}, {60, 1, 1}, {60, 99, 99}, {119, 99, 99}, {120, 99, 198}, {659, 1, 10},
            {660, 1, 11}, {719, 1, 11}, {719, 99, 1089}};
        for (int[] r : rows) {
            for (int owed : new int[] {0, 9999}) {
                RopeClock x = new RopeClock();
                x.set(2, 0, r[0]);
                x.set(4, 0, owed);
                tell(x, 2, "on 0 interest " + r[1] + ";");
                x.days(1);
                due(owed + r[2], x.look(7));
            }
        }
        // Line by line: by the time that the line before has pushed to.
        RopeClock x = new RopeClock();
        tell(x, 2, "on 0 interest 9;on 0 push 60;on 0 interest 10;on 0 push 659;on 0 interest 10;on 0 push 1;on 0 interest 9;");
        x.days(1);
        due(10 + 110, x.look(7));
    }

    private static void townOfTheDay() {
        promise = "line by line of TOWN for it";
        RopeClock x = town(2);
        due(4, tell(x, 2, "on 2 beg 1;on 1 holiday;on 1 push 7;on 2 school;"));
        x.days(1);
        due(1, x.look(6));
        due(0, x.look(2));
        x.days(1);
        due(0, x.look(6));
        due(7, x.look(2));
        due(0, x.of(1, 3));
        x.days(1);
        due(1, x.look(6));
        due(1, x.of(1, 3));
        due(0, x.of(0, 3));
        x.days(60);
        due(7, x.look(2));
        // Of several the last one holds.
        RopeClock y = town(1);
        tell(y, 2, "on 0 beg 0;on 0 free 0;on 0 holiday;on 0 school;on 0 holiday;");
        y.days(1);
        due(0, y.of(0, 3));
        due(0, y.look(6));
    }

    private static void townDoesItAgain() {
        promise = "beg, free: STAYS 1, 0; school, holiday: SCHOOL 1, 0 (as they may be already)";
        RopeClock x = town(2);
        x.act(2, 0);
        x.act(0, 0);
        tell(x, 2, "on 0 beg 0;on 0 free 1;on 0 school;on 1 holiday;on 2 holiday;on 3 free 0;on 4 beg 1;");
        x.days(1);
        due(1, x.of(0, 3));
        due(0, x.of(1, 3));
        due(1, x.look(6));
        x.days(2);
        due(0, x.look(6));
        x.days(1);
        due(0, x.look(6));
        due(0, x.of(0, 3));
        due(0, x.of(0, 2));
        x.days(1);
        due(1, x.of(1, 3));
    }

    private static void lastDayOfTexts() {
        promise = "DAY 0 .. 999 of BOATS and TOWN";
        RopeClock x = with(10, 9);
        tell(x, 0, "leaves 1000;");
        tell(x, 1, "on 999 boat 1 out;");
        tell(x, 2, "on 999 push 5;on 998 holiday;");
        for (int i = 0; i < 16; i++) {
            x.days(60);
        }
        x.days(38);
        due(998, x.look(8));
        due(1, x.look(6));
        x.days(1);
        due(0, x.look(6));
        due(0, x.look(2));
        due(1, x.look(1));
        x.days(1);
        due(1000, x.look(8));
        due(15, x.look(2));
        due(0, x.look(1));
        x.days(60);
        due(15, x.look(2));
    }

    private static void boatHasSeats() {
        promise = "as long as there are seats";
        for (int seats : new int[] {1, 2, 17, 18}) {
            RopeClock x = town(18);
            tell(x, 0, "leaves 1000;returns 1000;winds 1;");
            tell(x, 1, "on 0 boat " + seats + " out;on 1 boat 18 out;on 2 boat " + seats + " back;");
            x.days(1);
            int gone = (1 << seats) - 1;
            due((1 << 18) - 1 & ~gone, x.look(1));
            due(seats, x.look(2));
            due(seats, x.look(9));
            x.days(1);
            due(0, x.look(1));
            due(18, x.look(2));
            x.days(1);
            due(gone, x.look(1));
            due(18 - seats, x.look(2));
        }
        // Who finds no seat is not asked: there is no draw.
        RopeClock y = town(2);
        tell(y, 0, "leaves 1000;");
        tell(y, 1, "on 0 boat 1 out;");
        y.days(1);
        due(1013904223, y.look(10));
        RopeClock z = town(2);
        tell(z, 0, "leaves 1000;");
        tell(z, 1, "on 0 boat 2 out;");
        z.days(1);
        due(1664525 * 1013904223 + 1013904223, z.look(10));
    }

    private static void boatAsks() {
        promise = "who is HERE and does not STAY: leaves is asked, is it above 0, a DRAW";
        // One who is not here, one who stays, one whose leaves is 0, and one who goes.
        RopeClock x = with(1, 0, 2, 0, 3, 0, 4, 0);
        tell(x, 0, "leaves 0 when weight=3;leaves 1000;winds 0;");
        tell(x, 1, "on 0 boat 18 out;");
        x.act(0, 0);
        x.act(2, 1);
        x.days(1);
        due(0b0110, x.look(1));
        due(1013904223, x.look(10));
        due(1, x.of(0, 4));
        due(0, x.of(1, 4));
        due(0, x.of(2, 4));
        due(1, x.of(3, 4));
        // Each is asked as things stand when it is his turn.
        RopeClock y = town(3);
        tell(y, 0, "leaves 1000 when here=3;leaves 1000 when wound=1 and here=2;leaves 0;winds weight;");
        tell(y, 1, "on 0 boat 18 out;");
        y.days(1);
        due(0b100, y.look(1));
    }

    private static void boatBackAsks() {
        promise = "back: who is not HERE: returns is asked, is it above 0, a DRAW";
        RopeClock x = with(1, 0, 2, 0, 3, 0, 4, 0);
        for (int i = 1; i < 4; i++) {
            x.act(0, i);
        }
        // One who stays comes back like others.
        x.act(2, 3);
        tell(x, 0, "returns 0-1 when weight=2;returns 1000;winds 0;");
        tell(x, 1, "on 0 boat 18 back;");
        x.days(1);
        due(0b1101, x.look(1));
        due(1664525 * 1013904223 + 1013904223, x.look(10));
        due(1, x.of(3, 3));
        // The draw behind state 0 is 3960563: 563 of 1000.
        for (int returns = 563; returns <= 564; returns++) {
            RopeClock y = with(1, 0);
            y.act(0, 0);
            tell(y, 0, "returns " + returns + ";");
            tell(y, 1, "on 0 boat 1 back;");
            y.days(1);
            due(returns - 563, y.look(1));
        }
    }

    private static void boatsByLines() {
        promise = "line by line of BOATS for it";
        RopeClock x = town(1);
        tell(x, 0, "leaves 1000;returns 1000;");
        tell(x, 1, "on 0 boat 1 out;on 0 boat 1 back;on 0 boat 1 out;on 1 boat 1 out;on 1 boat 1 back;");
        x.days(1);
        due(0, x.look(1));
        due(2, x.of(0, 4));
        due(3, x.look(9));
        x.days(1);
        due(1, x.look(1));
        due(2, x.of(0, 4));
        // All sixteen, each by one.
        RopeClock y = town(18);
        tell(y, 0, "leaves 1000;");
        due(16, tell(y, 1, times(16, "on 0 boat 1 out;")));
        y.days(1);
        due(0b11 << 16, y.look(1));
    }

    private static void boatWithoutPeople() {
        promise = "boats where nobody is";
        RopeClock x = new RopeClock();
        tell(x, 1, "on 0 boat 18 out;on 0 boat 18 back;");
        due(0, x.days(1));
        due(0, x.look(10));
        due(0, x.look(3));
        due(1, x.look(9));
    }

    private static void kinWhileSeats() {
        promise = "his kin, by number, who are HERE (STAY or not), go, too, while there are seats";
        // 2 goes; his kin are 0 (who stays), 1 (who is not here), 3 and 4.
        int[] here = {0b11001, 0b11000, 0b10000, 0, 0, 0};
        for (int seats = 1; seats <= 6; seats++) {
            RopeClock x = town(5);
            tell(x, 3, "islander 2 kin 4;islander 3 kin 2;islander 2 kin 1;islander 0 kin 2;");
            tell(x, 0, "leaves 1000 when weight=3;leaves 0;winds 0;");
            x.act(0, 1);
            x.act(2, 0);
            tell(x, 1, "on 0 boat " + seats + " out;");
            x.days(1);
            due(here[seats - 1], x.look(1));
            due(1013904223, x.look(10));
            due(1, x.of(1, 4));
            due(Math.min(seats, 4) + 2, x.look(9));
        }
    }

    private static void kinByNumber() {
        promise = "likewise without a DRAW (not theirs in turn)";
        // 0 goes with 3; 3's kin 1 is asked himself, 2 goes then by his own draw with nobody.
        RopeClock x = town(4);
        tell(x, 3, "islander 0 kin 3;islander 3 kin 1;");
        tell(x, 0, "leaves 0 when weight=2;leaves 1000;winds 0;");
        tell(x, 1, "on 0 boat 18 out;");
        x.days(1);
        due(0b0010, x.look(1));
        due(0, x.book(0, 2));
        due(3, x.book(1, 2));
        due(2, x.book(2, 2));
        due(1664525 * 1013904223 + 1013904223, x.look(10));
        // Coming back kin do not come along.
        RopeClock y = town(2);
        tell(y, 3, "islander 0 kin 1;");
        y.act(0, 0);
        y.act(0, 1);
        tell(y, 0, "returns 1000 when weight=1;returns 0;");
        tell(y, 1, "on 0 boat 18 back;");
        y.days(1);
        due(1, y.look(1));
    }

    private static int blanks(RopeClock x) {
        return x.feed(0x20202020, 0x20202020, 0x20202020, 0x20202020, 0x20202020);
    }

    private static void tapeHas400() {
        promise = "feed: NONE, and nothing comes, if there would be more than 400";
        for (int length = 378; length <= 400; length++) {
            RopeClock x = new RopeClock();
            for (int i = 0; i < 20; i++) {
                blanks(x);
            }
            due(true, x.end(length));
            due(length <= 380 ? length + 20 : -1, blanks(x));
            int has = length <= 380 ? length + 20 : length;
            due(false, x.end(has + 1));
            due(true, x.end(has));
            due(0, x.text(0));
            due(20, blanks(x));
        }
        // What did not come is not read, either.
        RopeClock y = new RopeClock();
        for (int i = 0; i < 20; i++) {
            blanks(y);
        }
        y.end(381);
        due(-1, y.feed(-1, -1, -1, -1, -1));
        due(0, y.text(0));
        due(0, y.fault(0));
    }

    private static void tapeEnds() {
        promise = "end: false, changing nothing, if it has not so many, or n is below 0";
        RopeClock x = new RopeClock();
        due(true, x.end(0));
        due(false, x.end(1));
        due(false, x.end(-1));
        due(false, x.end(Integer.MIN_VALUE));
        due(false, x.end(Integer.MAX_VALUE));
        blanks(x);
        due(false, x.end(21));
        due(false, x.end(-1));
        due(true, x.end(20));
        due(true, x.end(20));
        due(40, blanks(x));
        due(true, x.end(39));
        due(false, x.end(40));
        due(59, blanks(x));
        due(true, x.end(0));
        due(false, x.end(1));
        due(20, blanks(x));
    }

    private static void tapeOrder() {
        promise = "twenty bytes come behind the TAPE, of each number the highest first";
        // "winds 1 when 2>1;   " and then "winds" and 15 blanks, of which one is cut.
        RopeClock x = town(1);
        due(20, x.feed(0x77696E64, 0x73203120, 0x7768656E, 0x20323E31, 0x3B202020));
        due(true, x.end(17));
        due(37, x.feed(0x77696E64, 0x73393B80, 0x81FF0000, 0, 0));
        due(true, x.end(24));
        due(2, x.text(0));
        due(1, x.of(0, 6));
        // Each byte at its place, the last of the twenty and of the 400, too.
        for (int at = 0; at < 20; at++) {
            int[] five = {0x20202020, 0x20202020, 0x20202020, 0x20202020, 0x20202020};
            five[at / 4] ^= 0x20 << 24 - at % 4 * 8 ^ 0x80 << 24 - at % 4 * 8;
            RopeClock y = new RopeClock();
            for (int i = 0; i < 19; i++) {
                blanks(y);
            }
            due(400, y.feed(five[0], five[1], five[2], five[3], five[4]));
            due(-1, y.text(0));
            due(1, y.fault(0));
            due(380 + at, y.fault(1));
        }
    }
}
