/**
 * Part 4 of the terms and the promises 13 to 33: each sentence that names a bound, on either side of it. The sentence
 * stands as the name of its test; answers at the bounds were worked out by hand.
 */
final class ThoughtEdgeTests extends Bench {
    public static void main(String[] args) {
        goesSixty();
        goesFiveHundred();
        goesWithoutDraws();
        lonelyNow();
        lonelyWithinSixty();
        mustOfM();
        mustFewest();
        mustOfThoseHere();
        strokesOfTimes();
        handsOfTimes();
        wheelsAreFive();
        wheelTurns();
        couplesAreEight();
        ferryOfSix();
        ferryCountsForNothing();
        glassesOfThirty();
        glassesTurned();
        seatsAreSeven();
        levelWays();
        partOf9999();
        partNoSuch();
        bellsOfEight();
        bellsInOrder();
        againstSixteen();
        calendarOf400();
        calendarYears();
        ropeFolds();
        meetsOf500();
        armsAreSix();
        hungLeast();
        gameOfSixty();
        gameEnds();
        finish("ThoughtEdgeTests");
    }

    private static void goesSixty() {
        promise = "GOES for n (1 .. 60) DAYS; NONE if one can't be, or another what";
        for (int what = 0; what < 4; what++) {
            int asked = what;
            bounds(1, 60, -1, n -> town(1).goes(n, asked));
            due(0, new RopeClock().goes(1, what));
            due(0, new RopeClock().goes(60, what));
        }
        bounds(0, 3, -1, what -> town(1).goes(1, what));
        bounds(0, 3, -1, what -> town(1).goes(60, what));
        // What is on the 60th day from now is in it, what is on the 61st not.
        RopeClock x = with(90, 9);
        tell(x, 0, "leaves 1000;");
        tell(x, 1, "on 59 boat 1 out;on 60 boat 1 back;");
        tell(x, 2, "on 59 push 60;on 59 interest 5;on 60 push 7;");
        int[][] rows = {{59, 0, 1, 0, 0}, {60, 150, 0, 2, 5}};
        for (int[] r : rows) {
            for (int what = 0; what < 4; what++) {
                due(r[what + 1], x.goes(r[0], what));
            }
        }
        // From another day on.
        x.days(1);
        due(150, x.goes(59, 0));
        due(157, x.goes(60, 0));
    }

    private static void goesFiveHundred() {
        promise = "one leaves, returns, if that is 500 at least";
        for (int chance : new int[] {0, 1, 499, 500, 501, 1000}) {
            RopeClock x = town(2);
            tell(x, 0, "leaves " + chance + ";");
            tell(x, 1, "on 0 boat 18 out;");
            due(chance >= 500 ? 0 : 2, x.goes(1, 1));
            RopeClock y = town(2);
            y.act(0, 0);
            y.act(0, 1);
            tell(y, 0, "returns " + chance + ";");
            tell(y, 1, "on 0 boat 18 back;");
            due(chance >= 500 ? 2 : 0, y.goes(1, 1));
        }
        // By the law of the clock: long 6 is 480, 7 is 560; back 500 is for long 0 alone.
        RopeClock z = with(1, 6, 2, 7);
        tell(z, 1, "on 0 boat 18 out;");
        due(2, z.goes(1, 0));
        RopeClock w = with(1, 0, 2, 1);
        w.act(0, 0);
        w.act(0, 1);
        w.set(3, 0, 0);
        tell(w, 1, "on 0 boat 18 back;");
        due(719, w.goes(1, 0));
    }

    private static void goesWithoutDraws() {
        promise = "IN THOUGHT (nothing of it stays; no DRAWS)";
        // By draws from these states he would go, or not, at 500; in thought he goes from each.
        for (int state : new int[] {0, 634785765, 653637408, -1606495515}) {
            RopeClock x = with(60, 5);
            tell(x, 0, "leaves 500;");
            tell(x, 1, "on 0 boat 1 out;");
            x.state(state);
            due(0, x.goes(1, 1));
            due(1, x.goes(1, 2));
            due(1, x.lonely());
            due(state, x.look(10));
            due(1, x.look(1));
            due(0, x.look(9));
            due(0, x.look(8));
            due(0, x.look(15));
        }
        // Seats, staying and kin are as on a day.
        RopeClock y = town(4);
        tell(y, 0, "leaves 500 when weight=2;leaves 499;");
        tell(y, 3, "islander 1 kin 3;islander 1 kin 0;");
        y.act(2, 0);
        int[] here = {3, 2, 1, 1};
        for (int seats = 1; seats <= 4; seats++) {
            tell(y, 1, "on 0 boat " + seats + " out;");
            due(here[seats - 1], y.goes(1, 1));
        }
        y.act(2, 1);
        due(4, y.goes(1, 1));
    }

    private static void lonelyNow() {
        promise = "LONELY (0: now; no ISLANDERS: 0)";
        due(0, new RopeClock().lonely());
        RopeClock x = town(2);
        due(-1, x.lonely());
        x.act(0, 0);
        due(-1, x.lonely());
        x.act(0, 1);
        due(0, x.lonely());
        // Now is now, though they be back by the first day.
        tell(x, 0, "returns 1000;");
        tell(x, 1, "on 0 boat 18 back;");
        due(0, x.lonely());
        x.days(1);
        due(-1, x.lonely());
    }

    private static void lonelyWithinSixty() {
        promise = "LONELY (NONE: not within 60)";
        RopeClock x = town(1);
        tell(x, 0, "leaves 500;");
        int[][] rows = {{0, 1}, {1, 2}, {58, 59}, {59, 60}, {60, -1}, {61, -1}, {999, -1}};
        for (int[] r : rows) {
            tell(x, 1, "on " + r[0] + " boat 1 out;");
            due(r[1], x.lonely());
        }
        tell(x, 1, "on 60 boat 1 out;");
        x.days(1);
        due(60, x.lonely());
        // Behind days: who is back by the end of the day was not gone.
        tell(x, 0, "leaves 500;returns 500;");
        tell(x, 1, "on 2 boat 1 out;on 2 boat 1 back;on 4 boat 1 out;on 5 boat 1 back;");
        due(4, x.lonely());
    }

    private static void mustOfM() {
        promise = "m (0 .. 9999); NONE, too, if m can't be, or another what";
        RopeClock x = town(11);
        tell(x, 0, "winds 909;");
        due(11, x.must(9999, 0));
        due(2047, x.must(9999, 1));
        due(-1, x.must(9998, 0));
        due(-1, x.must(10000, 0));
        due(-1, x.must(10000, 1));
        due(0, x.must(0, 0));
        due(0, x.must(0, 1));
        due(-1, x.must(-1, 0));
        due(-1, x.must(-1, 1));
        due(-1, x.must(Integer.MIN_VALUE, 0));
        due(-1, x.must(Integer.MAX_VALUE, 1));
        due(-1, x.must(0, 2));
        due(-1, x.must(0, -1));
        due(-1, x.must(1, 0));
        due(-1, x.must(908, 1));
        due(1, x.must(909, 0));
        due(1, x.must(909, 1));
        // Twelve would be beyond what can be asked, but ten 999 and one of 9 are just 9999.
        RopeClock y = with(9, 0, 1, 0, 1, 0, 1, 0, 1, 0, 1, 0, 1, 0, 1, 0, 1, 0, 1, 0, 1, 0);
        tell(y, 0, "winds 9 when weight=9;winds 999;");
        due(11, y.must(9999, 0));
        due(2047, y.must(9999, 1));
        due(10, y.must(9990, 0));
        due(2046, y.must(9990, 1));
        // And 10000 can't be asked, though ten 999 and one of 10 are just that.
        tell(y, 0, "winds 10 when weight=9;winds 999;");
        due(-1, y.must(10000, 0));
        due(-1, y.must(10000, 1));
    }

    private static void mustFewest() {
        promise = "the fewest whose winds together are m just: which (a set, of several the least)";
        RopeClock x = with(1, 0, 2, 0, 3, 0, 4, 0, 5, 0, 6, 0, 7, 0, 8, 0, 9, 0, 10, 0, 11, 0, 12, 0, 13, 0, 14, 0, 15, 0, 16, 0, 17, 0,
                18, 0);
        due(1, x.must(1, 1));
        due(1 << 17, x.must(18, 1));
        // 19 by two: 1 and 18 (the bits 0 and 17), .., 9 and 10 (8 and 9): the least number.
        due(2, x.must(19, 0));
        due(1 << 8 | 1 << 9, x.must(19, 1));
        due(18, x.must(171, 0));
        due((1 << 18) - 1, x.must(171, 1));
        due(17, x.must(170, 0));
        due((1 << 18) - 2, x.must(170, 1));
        due(-1, x.must(172, 0));
        // Who winds nothing is not among the fewest.
        tell(x, 0, "winds 0 when weight<18;winds 5;");
        due(0, x.must(0, 0));
        due(0, x.must(0, 1));
        due(1, x.must(5, 0));
        due(1 << 17, x.must(5, 1));
        due(-1, x.must(10, 0));
        // Fewer go before a lesser set.
        RopeClock y = with(1, 0, 2, 0, 3, 0);
        due(1, y.must(3, 0));
        due(0b100, y.must(3, 1));
    }

    private static void mustOfThoseHere() {
        promise = "of those HERE (as now)";
        due(0, new RopeClock().must(0, 0));
        due(0, new RopeClock().must(0, 1));
        due(-1, new RopeClock().must(1, 0));
        RopeClock x = with(5, 0, 5, 0, 7, 0);
        due(1, x.must(5, 1));
        x.act(0, 0);
        due(-1, x.must(1, 0));
        due(-1, x.must(17, 0));
        due(2, x.must(5, 1));
        x.act(0, 1);
        due(-1, x.must(5, 1));
        due(4, x.must(7, 1));
        x.act(0, 2);
        due(-1, x.must(7, 0));
        due(0, x.must(0, 0));
        // Who stays is here; and each winds as now, though it would be otherwise once one has left.
        RopeClock y = with(5, 0, 5, 0);
        y.act(2, 0);
        tell(y, 0, "winds here*10;");
        due(2, y.must(40, 0));
        due(1, y.must(20, 1));
        due(-1, y.must(10, 0));
        due(-1, y.must(30, 0));
    }

    private static void strokesOfTimes() {
        promise = "STROKES (both 0 .. 719; the last one counts, the first not; alike: none)";
        RopeClock x = new RopeClock();
        bounds(0, 719, -1, from -> x.strokes(from, 0));
        bounds(0, 719, -1, to -> x.strokes(719, to));
        for (int t : new int[] {0, 1, 59, 60, 660, 719}) {
            due(0, x.strokes(t, t));
        }
        int[][] rows = {{0, 1, 0}, {0, 59, 0}, {0, 60, 1}, {1, 60, 1}, {59, 60, 1}, {60, 61, 0}, {60, 119, 0}, {60, 120, 2},
            {0, 719, 66}, {719, 0, 12}, {718, 0, 12}, {719, 1, 12}, {719, 718, 78}, {1, 0, 78}, {60, 0, 77}, {60, 59, 77},
            {660, 0, 12}, {659, 660, 11}, {660, 719, 0}, {120, 60, 76}, {719, 60, 13}};
        for (int[] r : rows) {
            due(r[2], x.strokes(r[0], r[1]));
        }
    }

    private static void handsOfTimes() {
        promise = "HANDS: how far (0 .. 360) at a TIME; at how many of the TIMES 0 .. 719 by just so many (0 .. 360)";
        RopeClock x = new RopeClock();
        bounds(0, 719, -1, v -> x.hands(v, 0));
        bounds(0, 360, -1, v -> x.hands(v, 1));
        bounds(0, 1, -1, what -> x.hands(360, what));
        // 361 is a time, but no distance.
        due(349, x.hands(361, 0));
        due(-1, x.hands(361, 1));
        int[][] rows = {{0, 0}, {1, 11}, {32, 352}, {33, 357}, {65, 5}, {66, 6}, {180, 180}, {360, 360}, {540, 180}, {654, 6}, {655, 5},
            {719, 11}};
        for (int[] r : rows) {
            due(r[1], x.hands(r[0], 0));
        }
        int sum = 0;
        for (int v = 0; v <= 360; v++) {
            int times = x.hands(v, 1);
            due(v == 0 || v == 360 ? 1 : 2, times);
            sum += times;
        }
        due(720, sum);
    }

    private static void wheelsAreFive() {
        promise = "WHEELS: up to 5 told (teeth 6 .. 99); teeth NONE: none is then; NONE if there are five";
        // -1 is no wheel but tells that there is none.
        bounds(6, 99, -1, teeth -> new RopeClock().wheel(teeth, false));
        bounds(6, 99, -1, teeth -> new RopeClock().wheel(teeth, true));
        RopeClock x = new RopeClock();
        due(0, x.wheel(-1, true));
        for (int i = 1; i <= 5; i++) {
            due(-1, x.wheel(5, false));
            due(i, x.wheel(i % 2 == 0 ? 6 : 99, i % 2 == 0));
        }
        due(-1, x.wheel(6, true));
        due(-1, x.wheel(6, false));
        due(0, x.wheel(-1, false));
        for (int what = 0; what < 3; what++) {
            due(0, x.wheels(what));
        }
        due(1, x.wheel(6, false));
        for (int what : new int[] {-1, 3, Integer.MIN_VALUE, Integer.MAX_VALUE}) {
            due(-10000000, x.wheels(what));
            due(-10000000, new RopeClock().wheels(what));
        }
    }

    private static void turning(int above, int below, int whole, int... wheels) {
        RopeClock x = new RopeClock();
        for (int w : wheels) {
            x.wheel(Math.abs(w), w < 0);
        }
        due(above, x.wheels(0));
        due(below, x.wheels(1));
        due(whole, x.wheels(2));
    }

    private static void wheelTurns() {
        promise = "how far the last one turns, in lowest terms (above is below 0, if it is the other way round)";
        // Below 0: on the axle of the one before it.
        turning(0, 0, 0);
        turning(1, 1, 1, 6);
        turning(1, 1, 1, -99);
        turning(1, 1, 1, -6, -99);
        turning(1, 1, 1, 6, -7, -8, -9, -10);
        turning(-1, 1, 1, 6, 6);
        turning(-2, 33, 33, 6, 99);
        turning(-33, 2, 2, 99, 6);
        turning(1, 1, 1, 6, 6, 6);
        turning(-1, 1, 1, 6, 6, 6, 6);
        turning(1, 1, 1, 6, 6, 6, 6, 6);
        // What is between the first and the last does not count for the last, but for all to be whole.
        turning(1, 1, 97, 6, 97, 6);
        turning(6, 79, 97 * 89 * 83 * 79, 6, 97, 89, 83, 79);
        turning(1, 6, 6, 20, 40, -10, 30);
        // As far as it can: 99 in 6 and 99 in 6 on one axle.
        turning(1089, 4, 4, 99, 6, -99, 6);
        turning(4, 1089, 1089, 6, 99, -6, 99);
    }

    private static void couplesAreEight() {
        promise = "couples of 0 .. 5 (a NONE: none is then); NONE if one can't be (alike), or there are eight";
        for (int a = -3; a <= 7; a++) {
            for (int b = -3; b <= 7; b++) {
                boolean can = a >= 0 && a <= 5 && b >= 0 && b <= 5 && a != b;
                due(a == -1 ? 0 : can ? 1 : -1, new RopeClock().couple(a, b));
            }
        }
        for (int far : new int[] {Integer.MIN_VALUE, Integer.MAX_VALUE}) {
            due(-1, new RopeClock().couple(far, 0));
            due(-1, new RopeClock().couple(0, far));
            due(0, new RopeClock().couple(-1, far));
        }
        RopeClock x = new RopeClock();
        for (int i = 1; i <= 8; i++) {
            due(-1, x.couple(3, 3));
            due(i, x.couple(i % 5, 5));
        }
        due(-1, x.couple(0, 1));
        due(-1, x.couple(0, 5));
        due(0, x.couple(-1, 0));
        due(1, x.couple(0, 1));
    }

    private static void ferryOfSix() {
        promise = "FERRY: n (1 .. 6), a boat for up to b (1 .. 3); the fewest crossings till all are over (NONE)";
        RopeClock x = new RopeClock();
        bounds(1, 6, -1, n -> x.ferry(n, 1));
        bounds(1, 3, -1, b -> x.ferry(6, b));
        // Without couples: each way over brings b, each way back none.
        for (int n = 1; n <= 6; n++) {
            for (int b = 1; b <= 3; b++) {
                due(2 * ((n + b - 1) / b) - 1, x.ferry(n, b));
            }
        }
        // Of two one is with him each time; of three that hate each other one boat for one is too small.
        RopeClock y = new RopeClock();
        y.couple(0, 1);
        due(3, y.ferry(2, 1));
        due(1, y.ferry(2, 2));
        y.couple(1, 2);
        due(7, y.ferry(3, 1));
        y.couple(2, 0);
        due(-1, y.ferry(3, 1));
        due(3, y.ferry(3, 2));
        due(1, y.ferry(3, 3));
        due(-1, y.ferry(4, 1));
    }

    private static void ferryCountsForNothing() {
        promise = "FERRY: one with a number n at least counts for nothing";
        for (int n = 1; n <= 5; n++) {
            RopeClock x = new RopeClock();
            x.couple(0, n);
            x.couple(n, n == 5 ? 4 : 5);
            due(2 * n - 1, x.ferry(n, 1));
        }
        // Three that can't be left, of whom one is not there for n 2; for n 5 and 6 others are.
        RopeClock y = new RopeClock();
        y.couple(0, 1);
        y.couple(0, 2);
        y.couple(1, 2);
        y.couple(3, 4);
        y.couple(3, 5);
        due(3, y.ferry(2, 1));
        due(-1, y.ferry(3, 1));
        due(3, y.ferry(3, 2));
        due(-1, y.ferry(5, 1));
    }

    private static void glassesOfThirty() {
        promise = "GLASSES of a, b (1 .. 30 minutes), t (1 .. 120); NONE, too, if one can't be";
        RopeClock x = new RopeClock();
        bounds(1, 30, -1, a -> x.glasses(a, 1, 120));
        bounds(1, 30, -1, b -> x.glasses(1, b, 120));
        bounds(1, 120, -1, t -> x.glasses(1, 30, t));
        due(0, x.glasses(1, 1, 1));
        due(119, x.glasses(1, 1, 120));
        due(0, x.glasses(30, 30, 30));
        due(1, x.glasses(30, 30, 60));
        due(3, x.glasses(30, 30, 120));
        due(-1, x.glasses(30, 30, 29));
        due(-1, x.glasses(30, 30, 31));
        due(-1, x.glasses(30, 30, 119));
        due(-1, x.glasses(2, 30, 1));
    }

    private static void glassesTurned() {
        promise = "whenever one runs out, any of both (or none) can be turned over; left so it does not run out again";
        RopeClock x = new RopeClock();
        due(0, x.glasses(1, 30, 30));
        // At 30 the glass of 1, which ran out at 1, is turned: once.
        due(1, x.glasses(1, 30, 31));
        due(1, x.glasses(1, 30, 2));
        due(-1, x.glasses(2, 30, 31));
        due(1, x.glasses(30, 1, 31));
        // 3 and 5: at 6 the 3 turned at 3; at 7 the 3 turned at 3 and, with one minute left, at 5; at 8 the 3 turned at 5.
        int[] fewest = {-1, -1, 0, -1, 0, 1, 2, 1, 2, 1};
        for (int t = 1; t <= 10; t++) {
            due(fewest[t - 1], x.glasses(3, 5, t));
            due(fewest[t - 1], x.glasses(5, 3, t));
        }
        // 4 and 5 for 7: the 4 at 4; both at 5, the 4 with one minute then; at 6 the 5, which ran one minute.
        due(4, x.glasses(4, 5, 7));
        due(4, x.glasses(5, 4, 7));
    }

    private static void seatsAreSeven() {
        promise = "told weights, up to 7 (1 .. 99) (NONE: none is then); NONE if there are seven";
        bounds(1, 99, -1, weight -> new RopeClock().seat(weight));
        RopeClock x = new RopeClock();
        due(-1, x.seat(0));
        due(-1, x.seat(-2));
        due(0, x.seat(-1));
        for (int i = 1; i <= 7; i++) {
            due(-1, x.seat(100));
            due(i, x.seat(i == 1 ? 99 : 1));
        }
        due(-1, x.seat(1));
        due(-1, x.seat(99));
        due(0, x.seat(-1));
        due(1, x.seat(1));
    }

    private static void sitting(int ways, int... weights) {
        RopeClock x = new RopeClock();
        for (int w : weights) {
            x.seat(w);
        }
        due(ways, x.level());
    }

    private static void levelWays() {
        promise = "each on one of the seats -3 .. 3, no two on one: in how many ways weight times seat is 0";
        sitting(1);
        sitting(1, 1);
        sitting(1, 99);
        sitting(6, 1, 1);
        sitting(6, 99, 99);
        sitting(2, 33, 99);
        sitting(0, 32, 99);
        sitting(0, 1, 99);
        // 3 on 1 and 1 on -3, 2 on .. none: 1 and 2: (2, -1), (-2, 1).
        sitting(2, 1, 2);
        sitting(2, 2, 3);
        sitting(2, 1, 3);
        sitting(0, 1, 4);
        // All seven seats taken by alike weights: every order; six alike leave the midst free.
        sitting(5040, 1, 1, 1, 1, 1, 1, 1);
        sitting(5040, 99, 99, 99, 99, 99, 99, 99);
        sitting(720, 5, 5, 5, 5, 5, 5);
        // One is heavier: he sits in the midst.
        sitting(720, 1, 1, 1, 1, 1, 1, 2);
    }

    private static void partOf9999() {
        promise = "PART of a by b (1 .. 9999 each): its quotients: how many; the i-th; the fraction";
        RopeClock x = new RopeClock();
        bounds(1, 9999, -1, a -> x.part(a, 1, 0));
        bounds(1, 9999, -1, b -> x.part(1, b, 0));
        bounds(1, 9999, -1, a -> x.part(a, 9999, 100));
        bounds(1, 9999, -1, b -> x.part(9999, b, 300));
        int[][] rows = {{1, 1, 1, 1}, {9999, 1, 1, 9999}, {9999, 9999, 1, 1}, {1, 9999, 2, 0}, {9998, 9999, 3, 0},
            {9999, 9998, 2, 1}};
        for (int[] r : rows) {
            due(r[2], x.part(r[0], r[1], 0));
            due(r[3], x.part(r[0], r[1], 100));
            due(r[3], x.part(r[0], r[1], 200));
            due(1, x.part(r[0], r[1], 300));
        }
        due(9998, x.part(9999, 9998, 101));
        due(9999, x.part(9999, 9998, 201));
        due(9998, x.part(9999, 9998, 301));
        // The most there are: two numbers of the rabbits' row.
        due(18, x.part(6765, 4181, 0));
        due(19, x.part(4181, 6765, 0));
        due(1, x.part(6765, 4181, 116));
        due(2, x.part(6765, 4181, 117));
        due(4181, x.part(6765, 4181, 317));
        due(6765, x.part(4181, 6765, 318));
        // In lowest terms at the end.
        due(3, x.part(9999, 6666, 201));
        due(2, x.part(9999, 6666, 301));
    }

    private static void partNoSuch() {
        promise = "part: NONE if there is none such";
        RopeClock x = new RopeClock();
        // 7 by 3 has the quotients 2 and 3.
        int[][] rows = {{0, 2}, {100, 2}, {101, 3}, {200, 2}, {201, 7}, {300, 1}, {301, 3}};
        for (int[] r : rows) {
            due(r[1], x.part(7, 3, r[0]));
        }
        for (int what : new int[] {-1, 1, 99, 102, 103, 199, 202, 299, 302, 399, 400, 401, 500, -100, -200, Integer.MIN_VALUE,
            Integer.MAX_VALUE}) {
            due(-1, x.part(7, 3, what));
        }
        due(-1, x.part(0, 3, 0));
        due(-1, x.part(7, 0, 0));
        due(-1, x.part(10000, 3, 200));
        due(-1, x.part(7, 10000, 300));
    }

    private static void bellsOfEight() {
        promise = "BELLS of n (3 .. 8), k (0 .. 1000000) changes, place p (p NONE); NONE if one can't be";
        RopeClock x = new RopeClock();
        bounds(3, 8, -1, n -> x.bells(n, 0, 0));
        bounds(3, 8, -1, n -> x.bells(n, 0, -1));
        for (int n = 3; n <= 8; n++) {
            int of = n;
            bounds(0, 1000000, -1, k -> x.bells(of, k, 0));
            for (int p = 0; p < n; p++) {
                due(p, x.bells(n, 0, p));
            }
            due(-1, x.bells(n, 0, n));
            due(-1, x.bells(n, 0, -2));
            due(-1, x.bells(n, 0, Integer.MAX_VALUE));
            due(-1, x.bells(n, 0, Integer.MIN_VALUE));
            due(-1, x.bells(n, -1, n - 1));
            due(-1, x.bells(n, 1000001, n - 1));
        }
    }

    private static void bellsInOrder() {
        promise = "behind how many (1 at least) they first are in order again";
        RopeClock x = new RopeClock();
        for (int n = 3; n <= 8; n++) {
            due(2 * n, x.bells(n, 0, -1));
            due(2 * n, x.bells(n, 1000000, -1));
            for (int k = 0; k <= 2 * n; k++) {
                boolean inOrder = true;
                for (int p = 0; p < n; p++) {
                    inOrder &= x.bells(n, k, p) == p;
                }
                due(k == 0 || k == 2 * n, inOrder);
            }
        }
        // At the first change an odd one's last bell stays, at the second the first, and an even one's last, too.
        int[][] first = {{1, 0, 2}, {1, 0, 3, 2}, {1, 0, 3, 2, 4}};
        int[][] second = {{1, 2, 0}, {1, 3, 0, 2}, {1, 3, 0, 4, 2}};
        int[][] third = {{2, 1, 0}, {3, 1, 2, 0}, {3, 1, 4, 0, 2}};
        RopeClock y = new RopeClock();
        for (int n = 3; n <= 5; n++) {
            for (int p = 0; p < n; p++) {
                due(first[n - 3][p], y.bells(n, 1, p));
                due(second[n - 3][p], y.bells(n, 2, p));
                due(2 * n, y.bells(n, 2, -1));
                due(third[n - 3][p], y.bells(n, 3, p));
                // A million is 4 more than a multiple of 6, by 8 and by 10 it goes up.
                due(n == 3 ? y.bells(3, 4, p) : p, y.bells(n, 1000000, p));
            }
        }
    }

    private static void againstSixteen() {
        promise = "AGAINST of n (2 .. 16) players 0 .. n - 1, in round r (0 .. 999); NONE, too, if one can't be";
        RopeClock x = new RopeClock();
        // In round 1 the first two meet, however many there are (of two, in each round).
        bounds(2, 16, -1, n -> x.against(n, 1, 0));
        for (int n = 2; n <= 16; n += 2) {
            int of = n;
            bounds(0, 999, -1, r -> x.against(of, r, 0));
            bounds(0, n - 1, -1, i -> x.against(of, 999, i));
        }
        for (int n = 3; n <= 15; n += 2) {
            due(-1, x.against(n, 0, n));
            due(-1, x.against(n, 0, -1));
            due(-1, x.against(n, -1, 1));
            due(-1, x.against(n, 1000, 1));
            due(n - 1, x.against(n, 0, 1));
        }
        // Two always meet; of sixteen in round 999 (9 modulo 15) 12 has himself and meets the last.
        for (int r : new int[] {0, 1, 998, 999}) {
            due(1, x.against(2, r, 0));
            due(0, x.against(2, r, 1));
        }
        due(9, x.against(16, 999, 0));
        due(0, x.against(16, 999, 9));
        due(15, x.against(16, 999, 12));
        due(12, x.against(16, 999, 15));
        due(10, x.against(16, 999, 14));
        // Of fifteen the last one is nobody.
        due(-1, x.against(15, 999, 12));
        due(9, x.against(15, 999, 0));
        due(10, x.against(15, 999, 14));
        // Round 0 and round L are alike.
        due(15, x.against(16, 0, 0));
        due(15, x.against(16, 15, 0));
        due(0, x.against(16, 0, 15));
        due(14, x.against(16, 0, 1));
        due(-1, x.against(3, 0, 0));
        due(2, x.against(3, 3, 1));
    }

    private static void calendarOf400() {
        promise = "CALENDAR: b 1 .. 400, a 0 .. b less 1; y (0 .. 9999); NONE if one can't be, or another what";
        RopeClock x = new RopeClock();
        bounds(1, 400, -1, b -> x.calendar(b, 5, 0));
        for (int b : new int[] {1, 2, 399, 400}) {
            due(-1, x.calendar(-1000 + b, 9999, 0));
            due(0, x.calendar(b, 9999, 0));
            due(9999 * (b - 1) / b, x.calendar(1000 * (b - 1) + b, 9999, 0));
            due(-1, x.calendar(1000 * b + b, 9999, 0));
        }
        bounds(0, 9999, -1, y -> x.calendar(1004, y, 0));
        bounds(0, 9999, -1, y -> x.calendar(1004, y, 1));
        bounds(0, 1, -1, what -> x.calendar(1004, 4, what));
        for (int ab : new int[] {0, -1, -4, 401, 999, 1000, 1001, 2002, 400400, 401402, 400401, 399000, 399399, -1004, -399400,
            Integer.MIN_VALUE, Integer.MAX_VALUE}) {
            due(-1, x.calendar(ab, 1, 0));
            due(-1, x.calendar(ab, 1, 1));
        }
        due(0, x.calendar(1, 9999, 0));
        due(0, x.calendar(400, 9999, 0));
        due(0, x.calendar(399400, 1, 0));
        due(1, x.calendar(399400, 2, 0));
        due(399, x.calendar(399400, 400, 0));
        // 9999 years are 25 times 400 less one.
        due(25 * 399 - 1, x.calendar(399400, 9999, 0));
    }

    private static void calendarYears() {
        promise = "a day is put into each year by whose end one more whole day has come together; whether in year y (from 1; 0: not)";
        RopeClock x = new RopeClock();
        for (int ab : new int[] {1, 1002, 1004, 97400, 399400}) {
            due(0, x.calendar(ab, 0, 0));
            due(0, x.calendar(ab, 0, 1));
            due(0, x.calendar(ab, 1, 1));
        }
        int[] quarter = {0, 0, 0, 1, 0, 0, 0, 1};
        int[] half = {0, 1, 0, 1, 0, 1, 0, 1};
        int[] threeFifths = {0, 1, 0, 1, 1, 0, 1, 0};
        for (int y = 1; y <= 8; y++) {
            due(quarter[y - 1], x.calendar(1004, y, 1));
            due(half[y - 1], x.calendar(1002, y, 1));
            due(threeFifths[y - 1], x.calendar(3005, y, 1));
        }
        // But in the first of 400 years there is one in each.
        for (int y : new int[] {2, 3, 399, 400}) {
            due(1, x.calendar(399400, y, 1));
        }
        due(0, x.calendar(399400, 401, 1));
        due(2499, x.calendar(1004, 9999, 0));
        due(0, x.calendar(1004, 9999, 1));
        due(1, x.calendar(1004, 9996, 1));
    }

    private static void ropeFolds() {
        promise = "ROPE folded n (0 .. 20) times, then cut k (1 .. 9) times; NONE if one can't be, or another what";
        RopeClock x = new RopeClock();
        for (int what = 0; what < 2; what++) {
            int asked = what;
            bounds(0, 20, -1, n -> x.rope(n, 1, asked));
            bounds(1, 9, -1, k -> x.rope(20, k, asked));
        }
        bounds(0, 1, -1, what -> x.rope(3, 3, what));
        for (int k = 1; k <= 9; k++) {
            due(k + 1, x.rope(0, k, 0));
            due(0, x.rope(0, k, 1));
            due(2 * k + 1, x.rope(1, k, 0));
            due(1, x.rope(1, k, 1));
            due(k * 1048576 + 1, x.rope(20, k, 0));
            due(1048575, x.rope(20, k, 1));
        }
    }

    private static void meetsOf500() {
        promise = "MEETS (p, q 1 .. 500; s, t 0 .. 499): the first minute, s and t at least (NONE)";
        RopeClock x = new RopeClock();
        bounds(0, 499, -1, s -> x.meets(s, 1, 0, 1));
        bounds(0, 499, -1, t -> x.meets(0, 1, t, 1));
        bounds(1, 500, -1, p -> x.meets(0, p, 0, 1));
        bounds(1, 500, -1, q -> x.meets(0, 1, 0, q));
        int[][] rows = {{0, 1, 0, 1, 0}, {499, 500, 499, 500, 499}, {499, 1, 0, 500, 500}, {0, 500, 499, 1, 500},
            {0, 500, 499, 500, -1}, {499, 500, 0, 1, 499}, {1, 2, 0, 2, -1}, {1, 2, 0, 3, 3}, {0, 2, 1, 3, 4}, {0, 500, 1, 499, 500},
            {2, 3, 10, 4, 14}, {7, 5, 11, 3, 17}, {3, 1, 499, 500, 499}, {498, 500, 499, 1, 998}, {1, 500, 0, 499, 249001}, {0, 499, 1, 500, 249001}, {498, 499, 499, 500, 499 * 500 - 1}};
        for (int[] r : rows) {
            due(r[4], x.meets(r[0], r[1], r[2], r[3]));
            due(r[4], x.meets(r[2], r[3], r[0], r[1]));
        }
    }

    private static void armsAreSix() {
        promise = "up to 6 told arms (-9 .. 9 far, not 0) and weights (1 .. 20) (NONE - 99: none is then); NONE if there are six";
        for (int far = -12; far <= 12; far++) {
            due(far != 0 && Math.abs(far) <= 9 ? 1 : -1, new RopeClock().arm(far, 1));
        }
        bounds(1, 20, -1, weight -> new RopeClock().arm(9, weight));
        bounds(1, 20, -1, weight -> new RopeClock().arm(-9, weight));
        due(-1, new RopeClock().arm(-99, 1));
        due(-1, new RopeClock().arm(-101, 1));
        due(-1, new RopeClock().arm(Integer.MIN_VALUE, 1));
        due(-1, new RopeClock().arm(Integer.MAX_VALUE, 1));
        due(0, new RopeClock().arm(-100, 0));
        RopeClock x = new RopeClock();
        for (int i = 1; i <= 6; i++) {
            due(-1, x.arm(0, 1));
            due(-1, x.arm(1, 21));
            due(i, x.arm(1, 1));
        }
        due(-1, x.arm(1, 1));
        due(0, x.arm(-100, 1));
        due(0, x.hung(0));
        due(1, x.arm(-1, 1));
    }

    private static void hanging(int lean, int row, int... armsAndWeights) {
        RopeClock x = new RopeClock();
        for (int i = 0; i < armsAndWeights.length; i += 2) {
            x.arm(armsAndWeights[i], armsAndWeights[i + 1]);
        }
        due(lean, x.hung(0));
        due(row, x.hung(1));
        for (int what : new int[] {-1, 2, Integer.MIN_VALUE, Integer.MAX_VALUE}) {
            due(-1, x.hung(what));
        }
    }

    private static void hungLeast() {
        promise = "HUNG: by how much it leans least (without sign); how (of several the least) (none told: 0, 0)";
        hanging(0, 0);
        hanging(180, 0, 9, 20);
        hanging(180, 0, -9, 20);
        hanging(1, 0, -1, 1);
        // Alike all rows are alike: the least one, whose first digit is 0.
        hanging(2, 1, 1, 1, 1, 1);
        hanging(1080, 12345, 9, 20, 9, 20, 9, 20, 9, 20, 9, 20, 9, 20);
        hanging(1080, 12345, -9, 20, -9, 20, -9, 20, -9, 20, -9, 20, -9, 20);
        hanging(0, 1, 1, 5, -1, 5);
        // 20 and 10 on -9 and 4: as told -180 and 40; crossed 80 and -90.
        hanging(10, 10, -9, 20, 4, 10);
        // 9 to one side or to the other: as far, so the lesser row.
        hanging(9, 1, 3, 5, -3, 2);
        hanging(9, 1, -3, 5, 3, 2);
        hanging(1, 12, 2, 3, -3, 2, 1, 1);
    }

    private static void gameOfSixty() {
        promise = "GAME of n (2 .. 60) hours by a set (0 .. 1023), from hour h (0 .. n - 1); NONE - 9 if one can't be";
        RopeClock x = new RopeClock();
        bounds(2, 60, -10, n -> x.game(n, 1, 0, 0));
        bounds(0, 1023, -10, set -> x.game(12, set, 5, 0));
        bounds(0, 1023, -10, set -> x.game(12, set, 5, 1));
        for (int n : new int[] {2, 12, 59, 60}) {
            bounds(0, n - 1, -10, h -> x.game(n, 3, h, 0));
            bounds(0, n - 1, -10, h -> x.game(n, 0, h, 1));
        }
        bounds(0, 1, -10, what -> x.game(12, 3, 1, what));
        promise = "GAME: 0: none can be put on: 0; the least that keeps it (NONE)";
        for (int n : new int[] {2, 60}) {
            due(0, x.game(n, 0, 0, 0));
            due(-1, x.game(n, 0, 0, 1));
            due(0, x.game(n, 0, n - 1, 0));
            due(-1, x.game(n, 0, n - 1, 1));
        }
    }

    private static void playing(int n, int set, int h, int ends, int keeps) {
        RopeClock x = new RopeClock();
        due(ends, x.game(n, set, h, 0));
        due(keeps, x.game(n, set, h, 1));
    }

    private static void gameEnds() {
        promise = "who puts it just on 0 (also by more than a round) wins, over it it goes on round; at -1 the least of the set";
        playing(2, 1, 1, 1, 1);
        playing(2, 1, 0, -1, 1);
        // By 2 on a dial of 2: just on 0 from 0, never from 1.
        playing(2, 2, 0, 1, 2);
        playing(2, 2, 1, 0, 2);
        // By 10, that is five rounds; by all of 1 .. 10 from 0 the least that wins is 2.
        playing(2, 512, 0, 1, 10);
        playing(2, 512, 1, 0, 10);
        playing(2, 1023, 0, 1, 2);
        playing(2, 1023, 1, 1, 1);
        // By 10 on 60 hours: 50 wins, 40 loses, and so on by turns; between them it goes on for ever.
        playing(60, 512, 50, 1, 10);
        playing(60, 512, 40, -1, 10);
        playing(60, 512, 0, -1, 10);
        playing(60, 512, 59, 0, 10);
        // By 1 .. 10 on 60 hours: whoever has 11 before him loses.
        playing(60, 1023, 49, -1, 1);
        playing(60, 1023, 50, 1, 10);
        playing(60, 1023, 59, 1, 1);
        playing(60, 1023, 48, 1, 1);
        playing(60, 1023, 39, 1, 10);
        playing(60, 1023, 38, -1, 1);
        // Over 0 it goes on round: by 3 alone on 4 hours from 2 on 1, then 0.
        playing(4, 4, 1, 1, 3);
        playing(4, 4, 2, -1, 3);
        playing(4, 4, 3, 1, 3);
        playing(4, 4, 0, -1, 3);
        // By 5 or 10 the least of the set is 5 where all is lost.
        playing(15, 0b1000010000, 0, -1, 5);
        playing(15, 0b1000010000, 5, 1, 10);
        playing(15, 0b1000010000, 10, 1, 5);
        playing(15, 0b1000010000, 1, 0, 5);
    }
}
