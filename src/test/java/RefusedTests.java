import java.util.List;
import java.util.function.Consumer;
import java.util.function.ToIntFunction;

/**
 * A refused call changes nothing, and nor does a question: of two clocks that are told the same one is asked besides,
 * and then all that can be seen of both, and all that comes of both, must be alike.
 */
final class RefusedTests extends Bench {
    private static final int FAR = Integer.MAX_VALUE;
    private static final int NEAR = Integer.MIN_VALUE;

    public static void main(String[] args) {
        refusedTellings();
        refusedDeeds();
        refusedTape();
        refusedTexts();
        refusedByFull();
        refusedPuzzles();
        refusedUndoAndImage();
        refusedLastDay();
        questions();
        questionsRefused();
        askedBefore();
        finish("RefusedTests");
    }

    /** Three islanders, all texts, a few days and deeds of which some can be undone, puzzles, an image, a tape. */
    private static RopeClock lived() {
        RopeClock x = with(100, 9, 60, 3, 30, 6);
        tell(x, 0, "leaves 900 when long>5;winds weight+left;");
        tell(x, 1, "on 0 boat 2 out;on 2 boat 1 back;on 4 boat 3 out;");
        tell(x, 2, "on 1 push 70;on 2 interest 4;on 3 holiday;");
        tell(x, 3, "islander 0 kin 1;");
        x.wheel(20, false);
        x.wheel(30, false);
        x.couple(0, 1);
        x.seat(2);
        x.seat(2);
        x.arm(3, 4);
        x.arm(-2, 6);
        x.state(12345);
        x.days(1);
        x.image(true);
        x.days(2);
        x.act(2, 2);
        x.act(x.of(0, 2) == 1 ? 0 : 1, 0);
        faulty(x, 1, "on 5 boat 19 out;", 2, 10);
        put(x, "winds 55;");
        return x;
    }

    private static void seen(RopeClock x, StringBuilder s) {
        for (int what = 0; what < 16; what++) {
            s.append(x.look(what)).append(' ');
        }
        for (int i = 0; i < Math.min(4, x.look(0)); i++) {
            for (int what = 0; what < 9; what++) {
                s.append(x.of(i, what)).append(' ');
            }
        }
        for (int i = 0; i < Math.min(12, x.look(9)); i++) {
            for (int what = 1; what < 4; what++) {
                s.append(x.book(i, what)).append(' ');
            }
        }
        s.append(x.fault(0)).append(' ').append(x.fault(1)).append(' ');
        for (int what = 0; what < 3; what++) {
            s.append(x.wheels(what)).append(' ');
        }
        s.append(x.ferry(2, 1)).append(' ').append(x.level()).append(' ').append(x.hung(0)).append(' ').append(x.hung(1));
        s.append(" | ");
    }

    /** What is seen of it, what its tape is, what can be undone, what the image was, and the day to come. */
    private static String whole(RopeClock x) {
        StringBuilder s = new StringBuilder();
        seen(x, s);
        s.append(x.end(9)).append(x.end(10)).append(x.text(0)).append(' ').append(x.of(0, 6)).append(" | ");
        for (int i = 0; i < 7; i++) {
            s.append(x.undo()).append(x.look(8)).append(' ').append(x.look(1)).append(' ').append(x.look(3)).append(' ');
        }
        s.append(x.days(1));
        seen(x, s);
        s.append(x.image(false)).append(x.days(1));
        seen(x, s);
        return s.toString();
    }

    private static void unchanged(Consumer<RopeClock> call) {
        RopeClock x = lived();
        call.accept(x);
        same(whole(lived()), whole(x));
    }

    /** The call is refused by just this answer, and changes nothing. */
    private static void refused(int answer, ToIntFunction<RopeClock> call) {
        due(answer, call.applyAsInt(lived()));
        unchanged(call::applyAsInt);
    }

    private static void refusedDeed(java.util.function.Predicate<RopeClock> call) {
        refused(0, x -> call.test(x) ? 1 : 0);
    }

    private static void refusedTellings() {
        promise = "islander: NONE if one can't be";
        int[][] bad = {{0, 5}, {201, 5}, {NEAR, 5}, {FAR, 5}, {1, -1}, {200, 10}, {1, NEAR}, {1, FAR}, {0, -1}};
        for (int[] b : bad) {
            refused(-1, x -> x.islander(b[0], b[1]));
        }
        promise = "set: false if one can't be, or another what";
        int[][] sets = {{0, 0, 0}, {0, 2, 201}, {0, 3, 5}, {0, -1, 5}, {0, FAR, 5}, {1, 0, -1}, {1, 2, 10}, {1, 3, 5}, {1, -1, 5},
            {1, NEAR, 5}, {2, 0, -1}, {2, 0, 720}, {3, 0, -10000}, {3, 0, 10000}, {4, 0, -1}, {4, 0, 10000}, {5, 0, 5}, {-1, 0, 5},
            {NEAR, 0, 5}, {FAR, 0, 5}, {2, 0, NEAR}, {3, 0, FAR}, {4, 0, FAR}};
        for (int[] b : sets) {
            refusedDeed(x -> x.set(b[0], b[1], b[2]));
        }
    }

    private static void refusedDeeds() {
        promise = "act: false if it can't be, or another what";
        for (int who : new int[] {-1, 3, 17, 18, 32, NEAR, FAR}) {
            for (int what = 0; what < 4; what++) {
                int deed = what;
                refusedDeed(x -> x.act(deed, who));
            }
        }
        for (int what : new int[] {-1, 4, NEAR, FAR}) {
            refusedDeed(x -> x.act(what, 0));
        }
        // Of the third, who stays: begged again; and whatever each is, the deed that he is not for.
        refusedDeed(x -> x.act(2, 2));
        refusedDeed(x -> x.act(3, 0));
        for (int i = 0; i < 3; i++) {
            int who = i;
            refusedDeed(x -> x.act(x.of(who, 2) == 1 ? 1 : 0, who));
        }
        promise = "days: NONE, and nothing is done, if one can't be";
        for (int n : new int[] {0, -1, 61, NEAR, FAR}) {
            refused(-1, x -> x.days(n));
        }
    }

    private static void refusedTape() {
        promise = "end: false, changing nothing";
        for (int n : new int[] {-1, 10, 400, 401, NEAR, FAR}) {
            refusedDeed(x -> x.end(n));
        }
        promise = "feed: NONE, and nothing comes";
        for (int length = 381; length <= 400; length++) {
            RopeClock x = new RopeClock();
            put(x, times(400, " "));
            x.end(length);
            due(-1, x.feed(-1, -1, -1, -1, -1));
            due(-1, x.feed(0x77696E64, 0, 0, 0, 0));
            due(false, x.end(length + 1));
            due(true, x.end(length));
            due(0, x.text(0));
        }
    }

    private static void refusedTexts() {
        promise = "text: a FAULT (it stays as it was)";
        String[] bad = {"winds 1;winds", "on 0 boat 1 out;on 5 boat 0 out;", "on 0 push 1;on 0 push 0;", "islander 0 kin 2;islander 1 kin 1;"};
        int[][] faults = {{1, 13}, {2, 26}, {2, 22}, {2, 32}};
        for (int k = 0; k < 4; k++) {
            RopeClock x = lived();
            faulty(x, k, bad[k], faults[k][0], faults[k][1]);
            // But for the tape and the fault all is as it was, what can be undone, too.
            RopeClock y = lived();
            faulty(y, 1, "on 5 boat 19 out;", 2, 10);
            RopeClock z = lived();
            faulty(z, k, bad[k], faults[k][0], faults[k][1]);
            faulty(z, 1, "on 5 boat 19 out;", 2, 10);
            same(whole(y), whole(z));
        }
        promise = "text: NONE: no such one";
        for (int k : new int[] {-1, 4, NEAR, FAR}) {
            RopeClock x = lived();
            due(-1, x.text(k));
            due(0, x.fault(0));
            due(-1, x.fault(1));
            faulty(x, 1, "on 5 boat 19 out;", 2, 10);
            RopeClock y = lived();
            faulty(y, 1, "on 5 boat 19 out;", 2, 10);
            same(whole(y), whole(x));
        }
    }

    private static RopeClock full() {
        RopeClock x = town(18);
        x.act(2, 0);
        for (int i = 0; i < 5; i++) {
            x.wheel(10 + i, false);
        }
        for (int i = 0; i < 8; i++) {
            x.couple(0, 1);
        }
        for (int i = 0; i < 7; i++) {
            x.seat(i + 1);
        }
        for (int i = 0; i < 6; i++) {
            x.arm(i + 1, i + 1);
        }
        return x;
    }

    private static void refusedByFull() {
        promise = "NONE if there are eighteen, five, eight, seven, six";
        StringBuilder before = new StringBuilder();
        seen(full(), before);
        RopeClock x = full();
        due(-1, x.islander(1, 1));
        due(-1, x.wheel(6, false));
        due(-1, x.couple(2, 3));
        due(-1, x.seat(1));
        due(-1, x.arm(1, 1));
        StringBuilder after = new StringBuilder();
        seen(x, after);
        same(before.toString(), after.toString());
        due(true, x.undo());
    }

    private static void refusedPuzzles() {
        promise = "wheel, couple, seat, arm: NONE if one can't be";
        for (int teeth : new int[] {5, 100, 0, -2, NEAR, FAR}) {
            refused(-1, x -> x.wheel(teeth, true));
            refused(-1, x -> x.wheel(teeth, false));
        }
        int[][] couples = {{0, 0}, {5, 5}, {6, 0}, {0, 6}, {-2, 0}, {0, -1}, {NEAR, 1}, {1, FAR}};
        for (int[] c : couples) {
            refused(-1, x -> x.couple(c[0], c[1]));
        }
        for (int weight : new int[] {0, 100, -2, NEAR, FAR}) {
            refused(-1, x -> x.seat(weight));
        }
        int[][] arms = {{0, 1}, {10, 1}, {-10, 1}, {1, 0}, {1, 21}, {-1, -1}, {-99, 5}, {-101, 5}, {NEAR, 5}, {FAR, 5}, {5, FAR}};
        for (int[] a : arms) {
            refused(-1, x -> x.arm(a[0], a[1]));
        }
    }

    private static void refusedUndoAndImage() {
        promise = "undo: false if there is nothing; image: false if there is none";
        StringBuilder before = new StringBuilder();
        StringBuilder after = new StringBuilder();
        RopeClock x = town(2);
        x.set(3, 0, 100);
        put(x, "winds 5;");
        seen(x, before);
        due(false, x.undo());
        due(false, x.image(false));
        seen(x, after);
        same(before.toString(), after.toString());
        due(true, x.end(8));
        due(1, x.text(0));
        // Where something can be undone, the image that there is not leaves it.
        RopeClock y = town(2);
        y.act(0, 1);
        due(false, y.image(false));
        due(true, y.undo());
        due(3, y.look(1));
    }

    private static void refusedLastDay() {
        promise = "days: NONE, and nothing is done, if DAY would be above 9999";
        RopeClock x = town(2);
        tell(x, 0, "winds 90;");
        for (int i = 0; i < 166; i++) {
            x.days(60);
        }
        x.act(0, 1);
        StringBuilder before = new StringBuilder();
        seen(x, before);
        for (int n = 40; n <= 60; n++) {
            due(-1, x.days(n));
        }
        StringBuilder after = new StringBuilder();
        seen(x, after);
        same(before.toString(), after.toString());
        due(1, x.days(39));
        due(-1, x.days(1));
        due(9999, x.look(8));
        due(90, x.look(2));
    }

    private static void questions() {
        promise = "IN THOUGHT (nothing of it stays)";
        for (int what = 0; what < 4; what++) {
            int asked = what;
            unchanged(x -> x.goes(60, asked));
            unchanged(x -> x.goes(1, asked));
        }
        unchanged(x -> x.lonely());
        unchanged(x -> x.must(160, 0));
        unchanged(x -> x.must(9999, 1));
        unchanged(x -> x.strokes(0, 719));
        unchanged(x -> x.hands(100, 1));
        unchanged(x -> x.wheels(2));
        unchanged(x -> x.ferry(6, 3));
        unchanged(x -> x.glasses(7, 11, 15));
        unchanged(x -> x.level());
        unchanged(x -> x.part(355, 113, 201));
        unchanged(x -> x.bells(8, 1000000, 3));
        unchanged(x -> x.against(16, 999, 3));
        unchanged(x -> x.calendar(97400, 9999, 0));
        unchanged(x -> x.rope(20, 9, 0));
        unchanged(x -> x.meets(1, 500, 0, 499));
        unchanged(x -> x.hung(1));
        unchanged(x -> x.game(60, 1023, 3, 1));
        unchanged(x -> x.fault(0));
        for (int what = 0; what < 9; what++) {
            int asked = what;
            unchanged(x -> x.of(1, asked));
        }
        unchanged(x -> x.book(0, 3));
        unchanged(x -> x.look(10));
        unchanged(x -> x.end(9));
    }

    /** A ferry with these couples, each as two digits. */
    private static int ferried(RopeClock x, int n, int b, int... couples) {
        x.couple(-1, 0);
        for (int c : couples) {
            x.couple(c / 10, c % 10);
        }
        return x.ferry(n, b);
    }

    private static void askedBefore() {
        promise = "IN THOUGHT (nothing of it stays), for the next question";
        List<ToIntFunction<RopeClock>> asked = List.of(
                x -> ferried(x, 6, 3), x -> ferried(x, 2, 1, 1), x -> ferried(x, 3, 1, 1, 12), x -> ferried(x, 3, 1, 1, 12, 2),
                x -> ferried(x, 4, 1, 1, 12, 23), x -> ferried(x, 4, 2, 1, 12, 23), x -> ferried(x, 6, 1, 1, 23, 45),
                x -> ferried(x, 6, 2, 1, 2, 12, 34, 35, 45), x -> ferried(x, 5, 2, 1, 2, 3, 4),
                x -> ferried(x, 6, 3, 1, 2, 12, 34, 35, 45, 3, 14), x -> ferried(x, 1, 1),
                x -> x.glasses(29, 30, 120), x -> x.glasses(1, 1, 120), x -> x.glasses(4, 5, 7), x -> x.glasses(30, 30, 119),
                x -> x.game(60, 1023, 49, 0), x -> x.game(60, 512, 59, 1), x -> x.game(2, 1, 0, 0), x -> x.game(12, 0, 3, 0),
                x -> x.bells(8, 7, 3), x -> x.bells(3, 2, 0), x -> x.bells(5, 0, -1),
                x -> x.must(9999, 0), x -> x.must(160, 1), x -> x.must(30, 0), x -> x.goes(60, 0), x -> x.lonely(), x -> x.goes(1, 2));
        for (ToIntFunction<RopeClock> before : asked) {
            for (ToIntFunction<RopeClock> now : asked) {
                RopeClock x = with(100, 9, 60, 3, 30, 6);
                before.applyAsInt(x);
                due(now.applyAsInt(with(100, 9, 60, 3, 30, 6)), now.applyAsInt(x));
            }
        }
        // And all of them one behind another, twice round.
        RopeClock y = with(100, 9, 60, 3, 30, 6);
        for (int i = 0; i < 2 * asked.size(); i++) {
            ToIntFunction<RopeClock> now = asked.get(i * 5 % asked.size());
            due(now.applyAsInt(with(100, 9, 60, 3, 30, 6)), now.applyAsInt(y));
        }
    }

    private static void questionsRefused() {
        promise = "a question that can't be";
        refused(-1, x -> x.fault(2));
        refused(-1, x -> x.of(3, 5));
        refused(-1, x -> x.of(0, 9));
        refused(-2, x -> x.book(-1, 0));
        refused(-2, x -> x.book(0, 4));
        refused(-1, x -> x.goes(61, 0));
        refused(-1, x -> x.goes(1, 4));
        refused(-1, x -> x.must(10000, 0));
        refused(-1, x -> x.must(0, 2));
        refused(-1, x -> x.strokes(720, 0));
        refused(-1, x -> x.hands(720, 0));
        refused(-10000000, x -> x.wheels(3));
        refused(-1, x -> x.ferry(7, 1));
        refused(-1, x -> x.glasses(31, 1, 1));
        refused(-1, x -> x.part(0, 1, 0));
        refused(-1, x -> x.bells(9, 0, 0));
        refused(-1, x -> x.against(17, 0, 0));
        refused(-1, x -> x.calendar(4004, 1, 0));
        refused(-1, x -> x.rope(21, 1, 0));
        refused(-1, x -> x.meets(0, 0, 0, 1));
        refused(-1, x -> x.hung(2));
        refused(-10, x -> x.game(61, 1, 0, 0));
        refused(-100000, x -> x.look(16));
    }
}
