import java.util.function.Consumer;

/**
 * The book, undoing, the image and looking (promises 12, 34, 35, 36): each sentence that names a bound, on either
 * side of it. The sentence stands as the name of its test.
 */
final class KeepingEdgeTests extends Bench {
    public static void main(String[] args) {
        bookStruck();
        bookStoodAndRanBack();
        bookOfPeople();
        bookHas150();
        bookFullWithinADay();
        bookFullByHand();
        bookNoSuchLine();
        undoNothing();
        undoKeepsSix();
        undoOneByOne();
        undoEachKind();
        undoOfAFullBook();
        undoForgets();
        undoForgetsNot();
        undoLeavesLawAndKin();
        imageNone();
        imageMoreThanOnce();
        imageOfTheBook();
        imageTakenAgain();
        imageNothingToUndo();
        imageNotTheTape();
        imageOfFull();
        imageOfEmpty();
        lookAnotherWhat();
        lookAsTheyAre();
        callsAre512();
        finish("KeepingEdgeTests");
    }

    /** A clock at this time, wound so much, behind a day. */
    private static RopeClock dayOf(int time, int wound) {
        RopeClock x = new RopeClock();
        x.set(2, 0, time);
        x.set(3, 0, wound);
        x.days(1);
        return x;
    }

    private static void bookStruck() {
        promise = "2: strokes of that DAY, if above 0";
        // It ran, but struck not: no line at all.
        due(0, dayOf(0, 1).look(9));
        due(0, dayOf(0, 59).look(9));
        due(0, dayOf(660, 59).look(9));
        int[][] rows = {{0, 60, 1}, {0, 61, 1}, {719, 1, 12}, {0, 1440, 156}, {0, 1441, 156}, {1, 1439, 156}, {1, 1438, 144}};
        for (int[] r : rows) {
            RopeClock x = dayOf(r[0], r[1]);
            due(1, x.look(9));
            row(x, 0, 0, 2, -1, r[2]);
        }
    }

    private static void bookStoodAndRanBack() {
        promise = "3: TIME, if it did not run; 4: minutes";
        for (int time : new int[] {0, 60, 719}) {
            RopeClock x = dayOf(time, 0);
            due(1, x.look(9));
            row(x, 0, 0, 3, -1, time);
        }
        int[][] rows = {{0, -1, 1}, {719, -1, 1}, {60, -60, 60}, {0, -1439, 1439}, {0, -1440, 1440}, {0, -1441, 1440},
            {0, -9999, 1440}};
        for (int[] r : rows) {
            RopeClock x = dayOf(r[0], r[1]);
            due(1, x.look(9));
            row(x, 0, 0, 4, -1, r[2]);
        }
        // Days on end: each line has its day.
        RopeClock x = new RopeClock();
        x.set(3, 0, -2881);
        x.days(4);
        due(4, x.look(9));
        row(x, 0, 0, 4, -1, 1440);
        row(x, 1, 1, 4, -1, 1440);
        row(x, 2, 2, 4, -1, 1);
        row(x, 3, 3, 3, -1, 719);
    }

    private static void bookOfPeople() {
        promise = "DAY, what (0 left, 1 back), who: the ISLANDER, how much: winds";
        RopeClock x = town(18);
        tell(x, 0, "leaves 1000;returns 1000;winds 1000 when weight=18;winds 0;");
        tell(x, 1, "on 1 boat 18 out;on 1 boat 18 back;");
        x.days(2);
        due(1 + 36 + 1, x.look(9));
        row(x, 0, 0, 3, -1, 0);
        row(x, 1, 1, 0, 0, 0);
        row(x, 18, 1, 0, 17, 999);
        row(x, 19, 1, 1, 0, 0);
        row(x, 36, 1, 1, 17, 999);
        // All that was wound is wound back, so it stood still.
        row(x, 37, 1, 3, -1, 0);
    }

    /** A clock that stood still for so many days: as many lines. */
    private static RopeClock lines(int n) {
        RopeClock x = with(100, 9, 100, 9, 100, 9);
        tell(x, 0, "leaves 1000;returns 1000;");
        for (int left = n; left > 0; left -= 60) {
            x.days(Math.min(60, left));
        }
        return x;
    }

    private static void bookHas150() {
        promise = "THE BOOK (150 lines; no more then)";
        RopeClock x = lines(149);
        due(149, x.look(9));
        due(-2, x.book(149, 0));
        x.days(1);
        due(150, x.look(9));
        row(x, 149, 149, 3, -1, 0);
        due(-2, x.book(150, 0));
        x.set(2, 0, 5);
        due(0, x.days(1));
        due(151, x.look(8));
        due(150, x.look(9));
        row(x, 149, 149, 3, -1, 0);
        row(x, 0, 0, 3, -1, 0);
        due(-2, x.book(150, 0));
        due(-2, x.book(151, 0));
        // All but the book goes on.
        due(true, x.act(0, 0));
        due(1, x.days(1));
        due(150, x.look(9));
        due(105, x.look(2));
        due(1, x.look(4));
    }

    private static void bookFullWithinADay() {
        promise = "THE BOOK (150 lines; no more then), of a day with more lines than there is room";
        for (int before = 145; before <= 150; before++) {
            RopeClock x = lines(before);
            tell(x, 1, "on " + before + " boat 18 out;");
            due(before, x.look(9));
            due(15, x.days(1));
            // Three who left, and the strokes of 300 minutes, as far as there is room.
            due(Math.min(150, before + 4), x.look(9));
            for (int i = 0; i < 3 && before + i < 150; i++) {
                row(x, before + i, before, 0, i, 100);
            }
            if (before + 3 < 150) {
                row(x, before + 3, before, 2, -1, 15);
            }
            due(0, x.look(1));
            due(300, x.look(2));
        }
    }

    private static void bookFullByHand() {
        promise = "THE BOOK (150 lines; no more then), by hand";
        RopeClock x = lines(149);
        due(true, x.act(0, 2));
        due(true, x.act(0, 1));
        due(true, x.act(1, 2));
        due(true, x.act(2, 0));
        due(150, x.look(9));
        row(x, 149, 149, 0, 2, 100);
        due(100, x.look(3));
        due(0b101, x.look(1));
        due(6, x.look(15));
    }

    private static void bookNoSuchLine() {
        promise = "book: NONE - 1 if there is none such, or another what";
        due(-2, new RopeClock().book(0, 0));
        due(-2, new RopeClock().book(-1, 0));
        for (int n : new int[] {1, 2, 150}) {
            RopeClock x = lines(n);
            for (int what = 0; what < 4; what++) {
                int asked = what;
                bounds(0, n - 1, -2, i -> x.book(i, asked));
            }
        }
        RopeClock x = lines(3);
        bounds(0, 3, -2, what -> x.book(2, what));
        // Begging and freeing are not led.
        x.act(2, 0);
        x.act(3, 0);
        due(3, x.look(9));
    }

    private static void undoNothing() {
        promise = "undo: false if there is nothing";
        due(false, new RopeClock().undo());
        RopeClock x = town(1);
        due(false, x.undo());
        due(1, x.look(0));
        due(true, x.act(2, 0));
        due(true, x.undo());
        due(false, x.undo());
        due(0, x.of(0, 3));
        due(0, x.days(1));
        due(true, x.undo());
        due(false, x.undo());
        due(0, x.look(8));
    }

    private static void undoKeepsSix() {
        promise = "6 are kept";
        for (int done = 0; done <= 9; done++) {
            RopeClock x = town(9);
            for (int i = 0; i < done; i++) {
                x.act(0, i);
            }
            int kept = Math.min(done, 6);
            due(kept, x.look(15));
            for (int i = 0; i < kept; i++) {
                due(true, x.undo());
                due(kept - i - 1, x.look(15));
                due(511 & ~((1 << done - i - 1) - 1), x.look(1));
            }
            due(false, x.undo());
            due(511 & ~((1 << done - kept) - 1), x.look(1));
        }
        for (int n : new int[] {1, 5, 6, 7, 60}) {
            RopeClock x = new RopeClock();
            x.days(n);
            int kept = Math.min(n, 6);
            due(kept, x.look(15));
            for (int i = 1; i <= kept; i++) {
                due(true, x.undo());
                due(n - i, x.look(8));
            }
            due(false, x.undo());
            due(n - kept, x.look(8));
        }
    }

    private static void undoOneByOne() {
        promise = "the latest not undone yet goes back";
        RopeClock x = town(3);
        x.act(0, 0);
        x.act(0, 1);
        due(true, x.undo());
        // What is done now takes the place of what was undone.
        x.act(2, 2);
        due(2, x.look(15));
        due(0b110, x.look(1));
        due(true, x.undo());
        due(0, x.of(2, 3));
        due(0b110, x.look(1));
        due(true, x.undo());
        due(0b111, x.look(1));
        due(false, x.undo());
        // Over the sixth and back: the oldest are gone for good.
        RopeClock y = new RopeClock();
        y.days(6);
        y.undo();
        y.undo();
        y.days(3);
        due(7, y.look(8));
        due(6, y.look(15));
        for (int day = 6; day >= 1; day--) {
            due(true, y.undo());
            due(day, y.look(8));
        }
        due(false, y.undo());
    }

    private static void undoEachKind() {
        promise = "DAY, SENDING, FETCHING, BEGGING, FREEING goes back (STATE, THE BOOK, too)";
        RopeClock x = with(100, 9, 50, 0);
        tell(x, 0, "leaves 1000 when long=9;leaves 0;");
        tell(x, 1, "on 0 boat 1 out;");
        tell(x, 2, "on 0 holiday;on 0 beg 1;on 0 push 700;on 0 interest 3;");
        String[] before = new String[6];
        before[0] = told(x);
        due(13, x.days(1));
        due(1013904223, x.look(10));
        due(1, x.look(5));
        due(33, x.look(7));
        before[1] = told(x);
        x.act(1, 0);
        before[2] = told(x);
        x.act(0, 1);
        before[3] = told(x);
        x.act(3, 1);
        before[4] = told(x);
        x.act(2, 0);
        for (int i = 4; i >= 0; i--) {
            due(true, x.undo());
            same(before[i], told(x));
        }
        due(false, x.undo());
    }

    /** All that a day or a deed by hand can change; of the book its end. */
    private static String told(RopeClock x) {
        StringBuilder s = new StringBuilder();
        for (int what = 0; what < 15; what++) {
            s.append(x.look(what)).append(' ');
        }
        int people = x.look(0);
        for (int i = 0; i < people; i++) {
            for (int what : new int[] {2, 3, 4, 6, 8}) {
                s.append(x.of(i, what)).append(' ');
            }
        }
        int lines = x.look(9);
        for (int i = lines - 2; i <= lines; i++) {
            for (int what = 0; what < 4; what++) {
                s.append(x.book(i, what)).append(' ');
            }
        }
        return s.toString();
    }

    private static void undoOfAFullBook() {
        promise = "goes back (THE BOOK, too), when it is full";
        RopeClock x = lines(148);
        x.act(0, 0);
        x.act(0, 1);
        x.act(0, 2);
        due(150, x.look(9));
        due(true, x.undo());
        due(150, x.look(9));
        row(x, 149, 148, 0, 1, 100);
        due(true, x.undo());
        due(149, x.look(9));
        due(-2, x.book(149, 0));
        due(true, x.undo());
        due(148, x.look(9));
        x.act(0, 2);
        row(x, 148, 148, 0, 2, 100);
        due(149, x.look(9));
    }

    private static void forgetting(boolean forgets, Consumer<RopeClock> call) {
        RopeClock x = town(2);
        x.image(true);
        x.act(0, 0);
        x.act(2, 1);
        due(2, x.look(15));
        call.accept(x);
        due(forgets ? 0 : 2, x.look(15));
        due(!forgets, x.undo());
    }

    private static void undoForgets() {
        promise = "whatever else is told forgets them";
        forgetting(true, x -> x.state(0));
        forgetting(true, x -> x.state(x.look(10)));
        forgetting(true, x -> x.islander(1, 0));
        forgetting(true, x -> x.set(0, 0, 1));
        forgetting(true, x -> x.set(1, 1, 5));
        forgetting(true, x -> x.set(2, 0, 0));
        forgetting(true, x -> x.set(3, 0, 1));
        forgetting(true, x -> x.set(4, 0, 0));
        forgetting(true, x -> tell(x, 1, ""));
        forgetting(true, x -> tell(x, 1, "on 0 boat 1 out;"));
        forgetting(true, x -> tell(x, 2, ""));
        forgetting(true, x -> tell(x, 2, "on 0 beg 1;"));
        forgetting(true, x -> x.image(false));
    }

    private static void undoForgetsNot() {
        promise = "but THE LAW, KIN and what is told for thought (the taking of THE IMAGE does not)";
        forgetting(false, x -> tell(x, 0, ""));
        forgetting(false, x -> tell(x, 0, "winds 1;"));
        forgetting(false, x -> tell(x, 3, ""));
        forgetting(false, x -> tell(x, 3, "islander 0 kin 1;"));
        forgetting(false, x -> x.wheel(6, true));
        forgetting(false, x -> x.wheel(-1, true));
        forgetting(false, x -> x.couple(0, 1));
        forgetting(false, x -> x.couple(-1, 0));
        forgetting(false, x -> x.seat(1));
        forgetting(false, x -> x.seat(-1));
        forgetting(false, x -> x.arm(1, 1));
        forgetting(false, x -> x.arm(-100, 1));
        forgetting(false, x -> x.image(true));
        forgetting(false, x -> x.feed(0, 0, 0, 0, 0));
        forgetting(false, x -> x.end(0));
        // What is refused is not told.
        forgetting(false, x -> x.islander(0, 0));
        forgetting(false, x -> x.set(2, 0, 720));
        forgetting(false, x -> x.set(5, 0, 0));
        forgetting(false, x -> x.act(0, 0));
        forgetting(false, x -> x.days(61));
        forgetting(false, x -> tell(x, 1, "on"));
        forgetting(false, x -> tell(x, 2, "on"));
        forgetting(false, x -> x.text(4));
        forgetting(false, x -> x.lonely());
        forgetting(false, x -> x.goes(60, 0));
    }

    private static void undoLeavesLawAndKin() {
        promise = "THE LAW, KIN and what is told for thought stay when a day is undone";
        RopeClock x = town(2);
        x.days(1);
        tell(x, 0, "winds 7;");
        tell(x, 3, "islander 0 kin 1;");
        x.wheel(10, false);
        x.wheel(20, false);
        x.couple(0, 1);
        x.seat(3);
        x.seat(3);
        x.arm(2, 2);
        due(true, x.undo());
        due(0, x.look(8));
        due(7, x.of(0, 6));
        due(2, x.of(0, 8));
        due(-1, x.wheels(0));
        due(2, x.wheels(1));
        due(3, x.ferry(2, 1));
        due(6, x.level());
        due(4, x.hung(0));
    }

    private static void imageNone() {
        promise = "image: false if there is none";
        RopeClock x = town(1);
        x.act(0, 0);
        due(false, x.image(false));
        due(1, x.look(15));
        due(0, x.look(1));
        due(true, x.image(true));
        due(true, x.image(false));
        due(0, x.look(15));
        due(true, x.image(false));
    }

    private static void imageMoreThanOnce() {
        promise = "gone back to it may be more than once";
        RopeClock x = with(100, 9, 50, 0);
        tell(x, 0, "leaves 1000 when long=9;leaves 0;");
        tell(x, 1, "on 1 boat 1 out;");
        tell(x, 2, "on 1 holiday;on 2 beg 1;on 2 push 700;on 2 interest 3;");
        tell(x, 3, "islander 0 kin 1;");
        x.days(1);
        x.image(true);
        String then = told(x);
        for (int again = 0; again < 3; again++) {
            x.days(4);
            x.state(again);
            x.islander(9, 9);
            tell(x, again, "");
            tell(x, 3, "");
            due(true, x.image(false));
            same(then, told(x));
        }
    }

    private static void imageOfTheBook() {
        promise = "THE IMAGE: THE BOOK as it was when it was taken";
        RopeClock x = town(2);
        x.act(0, 0);
        x.image(true);
        // Another line at the same place: of another day, of what, of whom and by how much.
        x.undo();
        x.set(3, 0, 1);
        x.days(1);
        x.set(2, 0, 58);
        due(0, x.look(9));
        x.act(0, 1);
        x.days(1);
        x.act(1, 1);
        due(3, x.look(9));
        row(x, 0, 1, 0, 1, 2);
        row(x, 1, 1, 2, -1, 1);
        row(x, 2, 2, 1, 1, 2);
        x.image(false);
        due(1, x.look(9));
        row(x, 0, 0, 0, 0, 1);
        due(-2, x.book(1, 0));
    }

    private static void imageTakenAgain() {
        promise = "as it was when it was taken (the latest)";
        RopeClock x = new RopeClock();
        x.image(true);
        x.days(3);
        x.image(true);
        x.days(3);
        x.image(false);
        due(3, x.look(8));
        x.days(1);
        x.image(true);
        x.image(false);
        due(4, x.look(8));
    }

    private static void imageNothingToUndo() {
        promise = "but what can be undone (nothing then)";
        RopeClock x = town(2);
        x.act(0, 0);
        x.act(0, 1);
        x.image(true);
        due(2, x.look(15));
        due(true, x.undo());
        due(0b10, x.look(1));
        due(true, x.image(false));
        due(0, x.look(1));
        due(0, x.look(15));
        due(false, x.undo());
        due(true, x.act(1, 0));
        due(true, x.undo());
        due(false, x.undo());
        due(0, x.look(1));
    }

    private static void imageNotTheTape() {
        promise = "but the TAPE, fault()";
        RopeClock x = town(2);
        put(x, "winds 7;");
        x.image(true);
        due(true, x.end(8));
        due(1, x.text(0));
        due(-1, tell(x, 0, "winds"));
        put(x, "winds 99;");
        due(true, x.image(false));
        due(1, x.fault(0));
        due(5, x.fault(1));
        due(true, x.end(9));
        due(false, x.end(10));
        due(0, x.look(11));
        due(1, x.text(0));
        due(99, x.of(0, 6));
    }

    private static void imageOfFull() {
        promise = "THE IMAGE: all that is and was told, when all is full";
        RopeClock x = town(18);
        tell(x, 0, times(16, "winds 7;"));
        tell(x, 1, times(16, "on 999 boat 1 out;"));
        tell(x, 2, times(16, "on 999 school;"));
        tell(x, 3, times(16, "islander 17 kin 1;"));
        x.days(60);
        x.days(60);
        x.days(60);
        for (int i = 0; i < 8; i++) {
            x.couple(0, 1);
            x.wheel(6 + i, false);
            x.seat(1);
            x.arm(1, 1);
        }
        x.image(true);
        x.wheel(-1, false);
        x.couple(-1, 0);
        x.seat(-1);
        x.arm(-100, 0);
        for (int k = 0; k < 4; k++) {
            tell(x, k, "");
        }
        x.image(false);
        int[] looks = {18, (1 << 18) - 1, 0, 0, 0, 0, 1, 0, 180, 150, 0, 16, 16, 16, 16, 0};
        for (int what = 0; what < 16; what++) {
            due(looks[what], x.look(what));
        }
        due(-1, x.islander(1, 1));
        due(-1, x.wheel(6, false));
        due(-1, x.couple(0, 1));
        due(-1, x.seat(1));
        due(-1, x.arm(1, 1));
        due(5040, x.level());
        due(6, x.hung(0));
        due(12345, x.hung(1));
        due(3, x.ferry(2, 1));
        // 6 in 7 in 8 in 9 in 10: 6 by 10, and 6 by 7, 6 by 8, 6 by 9 on the way.
        due(3, x.wheels(0));
        due(5, x.wheels(1));
        due(7 * 4 * 3 * 5, x.wheels(2));
        due(2, x.of(17, 8));
        due(7, x.of(17, 6));
    }

    private static void imageOfEmpty() {
        promise = "THE IMAGE of a new one";
        RopeClock x = new RopeClock();
        x.image(true);
        for (int i = 0; i < 18; i++) {
            x.islander(9, 9);
        }
        tell(x, 0, "winds 1;");
        tell(x, 1, "on 0 boat 1 out;");
        tell(x, 2, "on 0 holiday;");
        tell(x, 3, "islander 0 kin 17;");
        x.wheel(9, true);
        x.couple(0, 1);
        x.seat(1);
        x.arm(1, 1);
        x.state(5);
        x.days(60);
        x.image(false);
        for (int what = 0; what < 16; what++) {
            due(what == 6 ? 1 : 0, x.look(what));
        }
        due(-2, x.book(0, 0));
        due(0, x.wheels(0));
        due(1, x.level());
        due(0, x.hung(0));
        due(1, x.couple(0, 1));
        due(1, x.wheel(9, true));
        due(1, x.seat(1));
        due(1, x.arm(1, 1));
        due(0, x.islander(9, 9));
        due(0, x.of(0, 8));
        due(9, x.of(0, 6));
    }

    private static void lookAnotherWhat() {
        promise = "look: NONE - 99999 for another what";
        bounds(0, 15, -100000, what -> new RopeClock().look(what));
        bounds(0, 15, -100000, what -> lines(10).look(what));
    }

    private static void lookAsTheyAre() {
        promise = "WOUND, STATE as they are";
        RopeClock x = town(1);
        for (int v : new int[] {Integer.MIN_VALUE, -1, 0, 1, Integer.MAX_VALUE, -100000}) {
            x.state(v);
            due(v, x.look(10));
        }
        for (int v : new int[] {-9999, -1, 0, 1, 9999}) {
            x.set(3, 0, v);
            due(v, x.look(3));
        }
        x.act(0, 0);
        due(10000, x.look(3));
    }

    private static void callsAre512() {
        promise = "An object is used for at most 512 calls after it has been made";
        RopeClock x = new RopeClock();
        due(0, x.islander(1, 0));
        for (int n = 1; n <= 254; n++) {
            x.act(0, 0);
            x.act(1, 0);
        }
        due(254, x.of(0, 4));
        due(150, x.look(9));
        due(true, x.undo());
    }
}
