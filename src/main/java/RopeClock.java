import java.util.Arrays;

/**
 * The tower clock of an island town, wound by the boat rope of those who leave.
 * The numbered promises of DOC.md say what each call answers.
 */
public final class RopeClock {
    public static final int NONE = -1;

    private static final int PEOPLE = 18;
    private static final int LINES = 16;
    private static final int KEPT = 6;
    private static final int LONGEST = 60;
    private static final int LAST_DAY = 9999;
    private static final int ROUND = 720;
    private static final int MOST_SUM = 9999;
    private static final int UNREACHED = 0x7FFFFFFF;

    private final World now = new World();
    private final World pictured = new World();
    private final World scratch = new World();
    private final Tape tape = new Tape();
    private final TextReader reader = new TextReader(tape);
    private final Thinker thinker = new Thinker();
    private final Island[] past = new Island[KEPT];
    private final int[] pastLines = new int[KEPT];
    private int undoable = 0;
    private boolean hasImage = false;
    private int[] sums = null;

    public RopeClock() {
        for (int i = 0; i < KEPT; i++) {
            past[i] = new Island();
        }
    }

    public int state(int v) {
        int before = now.island.draws;
        now.island.draws = v;
        forget();
        return before;
    }

    public int islander(int weight, int longs) {
        Island island = now.island;
        if (!within(weight, 1, 200) || !within(longs, 0, 9) || island.people >= PEOPLE) {
            return NONE;
        }
        forget();
        return island.comes(weight, longs);
    }

    public boolean set(int what, int who, int v) {
        if (!canBeSet(what, who, v)) {
            return false;
        }
        Island island = now.island;
        switch (what) {
            case 0:
                island.weight[who] = v;
                break;
            case 1:
                island.longs[who] = v;
                break;
            case 2:
                island.time = v;
                break;
            case 3:
                island.wound = v;
                break;
            default:
                island.due = v;
                break;
        }
        forget();
        return true;
    }

    public boolean act(int what, int who) {
        if (!now.island.knows(who) || !canAct(what, who)) {
            return false;
        }
        remember();
        switch (what) {
            case 0:
                now.goAboard(who);
                break;
            case 1:
                now.comeBack(who);
                break;
            case 2:
                now.island.stays |= 1 << who;
                break;
            default:
                now.island.stays &= ~(1 << who);
                break;
        }
        return true;
    }

    public int days(int n) {
        if (!within(n, 1, LONGEST) || now.island.day + n > LAST_DAY) {
            return NONE;
        }
        int before = now.island.struck;
        for (int i = 0; i < n; i++) {
            remember();
            now.passDay(false);
        }
        return now.island.struck - before;
    }

    public int feed(int a, int b, int c, int d, int e) {
        if (tape.length > Tape.MOST - 20) {
            return NONE;
        }
        tape.putFour(a);
        tape.putFour(b);
        tape.putFour(c);
        tape.putFour(d);
        tape.putFour(e);
        return tape.length;
    }

    public boolean end(int n) {
        if (!within(n, 0, tape.length)) {
            return false;
        }
        tape.length = n;
        return true;
    }

    public int text(int k) {
        int people = now.island.people;
        int lines = NONE;
        tape.rewind();
        switch (k) {
            case 0:
                if (reader.readLaw(scratch.law)) {
                    now.law.copyFrom(scratch.law);
                    lines = now.law.lines;
                }
                break;
            case 1:
                if (reader.readBoats(scratch.boats)) {
                    now.boats.copyFrom(scratch.boats);
                    lines = now.boats.lines;
                    forget();
                }
                break;
            case 2:
                if (reader.readTown(scratch.town, people)) {
                    now.town.copyFrom(scratch.town);
                    lines = now.town.lines;
                    forget();
                }
                break;
            case 3:
                if (reader.readKin(scratch.kin, people)) {
                    now.kin.copyFrom(scratch.kin);
                    lines = now.kin.lines;
                }
                break;
            default:
                break;
        }
        tape.length = 0;
        return lines;
    }

    public int fault(int what) {
        switch (what) {
            case 0:
                return tape.fault;
            case 1:
                return tape.place;
            default:
                return NONE;
        }
    }

    public int of(int islander, int what) {
        Island island = now.island;
        if (!island.knows(islander)) {
            return NONE;
        }
        switch (what) {
            case 0:
                return island.weight[islander];
            case 1:
                return island.longs[islander];
            case 2:
                return island.isHere(islander) ? 1 : 0;
            case 3:
                return island.isBegged(islander) ? 1 : 0;
            case 4:
                return island.left[islander];
            case 5:
                return now.tells(Law.LEAVES, islander);
            case 6:
                return now.tells(Law.WINDS, islander);
            case 7:
                return now.tells(Law.RETURNS, islander);
            case 8:
                return now.kin.sets[islander];
            default:
                return NONE;
        }
    }

    public int book(int i, int what) {
        Book book = now.book;
        if (!within(i, 0, book.lines - 1)) {
            return NONE - 1;
        }
        switch (what) {
            case 0:
                return book.day[i];
            case 1:
                return book.kind[i];
            case 2:
                return book.who[i];
            case 3:
                return book.much[i];
            default:
                return NONE - 1;
        }
    }

    public int goes(int n, int what) {
        if (!within(n, 1, LONGEST) || !within(what, 0, 3)) {
            return NONE;
        }
        scratch.copyFrom(now);
        for (int i = 0; i < n; i++) {
            scratch.passDay(true);
        }
        Island then = scratch.island;
        switch (what) {
            case 0:
                return then.time;
            case 1:
                return Integer.bitCount(then.here);
            case 2:
                return then.struck;
            default:
                return then.due;
        }
    }

    public int lonely() {
        scratch.copyFrom(now);
        for (int behind = 0; behind <= LONGEST; behind++) {
            if (scratch.island.here == 0) {
                return behind;
            }
            scratch.passDay(true);
        }
        return NONE;
    }

    public int must(int m, int what) {
        if (!within(m, 0, MOST_SUM) || !within(what, 0, 1)) {
            return NONE;
        }
        int fewest = fewestWinding(m);
        if (fewest == UNREACHED) {
            return NONE;
        }
        return what == 0 ? fewest >> PEOPLE : fewest & ((1 << PEOPLE) - 1);
    }

    public int strokes(int from, int to) {
        if (!within(from, 0, ROUND - 1) || !within(to, 0, ROUND - 1)) {
            return NONE;
        }
        return Thinker.strokesOver(from, from <= to ? to - from : to + ROUND - from);
    }

    public int hands(int v, int what) {
        if (what == 0 && within(v, 0, ROUND - 1)) {
            return Thinker.handsApart(v);
        }
        if (what == 1 && within(v, 0, ROUND / 2)) {
            return Thinker.minutesApartBy(v);
        }
        return NONE;
    }

    public int wheel(int teeth, boolean axle) {
        return now.puzzles.tellWheel(teeth, axle);
    }

    public int wheels(int what) {
        return within(what, 0, 2) ? now.puzzles.turnOf(what) : NONE - 9999999;
    }

    public int couple(int a, int b) {
        return now.puzzles.tellCouple(a, b);
    }

    public int ferry(int n, int b) {
        if (!within(n, 1, 6) || !within(b, 1, 3)) {
            return NONE;
        }
        return thinker.fewestCrossings(now.puzzles, n, b);
    }

    public int glasses(int a, int b, int t) {
        if (!within(a, 1, 30) || !within(b, 1, 30) || !within(t, 1, 120)) {
            return NONE;
        }
        return thinker.fewestTurnings(a, b, t);
    }

    public int seat(int weight) {
        return now.puzzles.tellSeat(weight);
    }

    public int level() {
        return Thinker.waysToSit(now.puzzles, 0, 0, 0);
    }

    public int part(int a, int b, int what) {
        if (!within(a, 1, 9999) || !within(b, 1, 9999)) {
            return NONE;
        }
        if (what == 0) {
            return Thinker.quotients(a, b);
        }
        return within(what, 100, 399) ? Thinker.partOf(a, b, what / 100, what % 100) : NONE;
    }

    public int bells(int n, int k, int p) {
        if (!within(n, 3, 8) || !within(k, 0, 1000000) || !within(p, NONE, n - 1)) {
            return NONE;
        }
        return p == NONE ? thinker.changesTillInOrder(n) : thinker.bellAt(n, k, p);
    }

    public int against(int n, int r, int i) {
        if (!within(n, 2, 16) || !within(r, 0, 999) || !within(i, 0, n - 1)) {
            return NONE;
        }
        return Thinker.opponent(n, r, i);
    }

    public int calendar(int ab, int y, int what) {
        int a = ab / 1000;
        int b = ab % 1000;
        if (!within(b, 1, 400) || !within(a, 0, b - 1) || !within(y, 0, 9999)) {
            return NONE;
        }
        switch (what) {
            case 0:
                return y * a / b;
            case 1:
                return y == 0 ? 0 : y * a / b - (y - 1) * a / b;
            default:
                return NONE;
        }
    }

    public int rope(int n, int k, int what) {
        if (!within(n, 0, 20) || !within(k, 1, 9)) {
            return NONE;
        }
        int layers = 1 << n;
        switch (what) {
            case 0:
                return k * layers + 1;
            case 1:
                // Each layer is cut, so no piece reaches from one fold to the next.
                return layers - 1;
            default:
                return NONE;
        }
    }

    public int meets(int s, int p, int t, int q) {
        if (!within(s, 0, 499) || !within(t, 0, 499) || !within(p, 1, 500) || !within(q, 1, 500)) {
            return NONE;
        }
        return Thinker.firstMeeting(s, p, t, q);
    }

    public int arm(int far, int weight) {
        return now.puzzles.tellArm(far, weight);
    }

    public int hung(int what) {
        if (!within(what, 0, 1)) {
            return NONE;
        }
        int best = Thinker.leastLean(now.puzzles, 0, 0, 0, 0);
        return what == 0 ? best / Thinker.ROWS : best % Thinker.ROWS;
    }

    public int game(int n, int set, int h, int what) {
        if (!within(n, 2, 60) || !within(set, 0, 1023) || !within(h, 0, n - 1) || !within(what, 0, 1)) {
            return NONE - 9;
        }
        thinker.judgeHours(n, set);
        return what == 0 ? thinker.worth[h] : thinker.stepThatKeeps(n, set, h);
    }

    public boolean undo() {
        if (undoable <= 0) {
            return false;
        }
        undoable--;
        now.island.copyFrom(past[undoable]);
        now.book.lines = pastLines[undoable];
        return true;
    }

    public boolean image(boolean taken) {
        if (taken) {
            pictured.copyFrom(now);
            hasImage = true;
            return true;
        }
        if (!hasImage) {
            return false;
        }
        now.copyFrom(pictured);
        forget();
        return true;
    }

    public int look(int what) {
        Island island = now.island;
        switch (what) {
            case 0:
                return island.people;
            case 1:
                return island.here;
            case 2:
                return island.time;
            case 3:
                return island.wound;
            case 4:
                return island.struck;
            case 5:
                return island.turns;
            case 6:
                return island.school;
            case 7:
                return island.due;
            case 8:
                return island.day;
            case 9:
                return now.book.lines;
            case 10:
                return island.draws;
            case 11:
                return now.law.lines;
            case 12:
                return now.boats.lines;
            case 13:
                return now.town.lines;
            case 14:
                return now.kin.lines;
            case 15:
                return undoable;
            default:
                return NONE - 99999;
        }
    }

    private static boolean within(int v, int least, int most) {
        return v >= least && v <= most;
    }

    private boolean canBeSet(int what, int who, int v) {
        switch (what) {
            case 0:
                return now.island.knows(who) && within(v, 1, 200);
            case 1:
                return now.island.knows(who) && within(v, 0, 9);
            case 2:
                return within(v, 0, ROUND - 1);
            case 3:
                return within(v, -9999, 9999);
            case 4:
                return within(v, 0, 9999);
            default:
                return false;
        }
    }

    private boolean canAct(int what, int who) {
        switch (what) {
            case 0:
                return now.island.isHere(who);
            case 1:
                return !now.island.isHere(who);
            case 2:
                return !now.island.isBegged(who);
            case 3:
                return now.island.isBegged(who);
            default:
                return false;
        }
    }

    private void forget() {
        undoable = 0;
    }

    private void remember() {
        if (undoable >= KEPT) {
            Island oldest = past[0];
            for (int i = 1; i < KEPT; i++) {
                past[i - 1] = past[i];
                pastLines[i - 1] = pastLines[i];
            }
            past[KEPT - 1] = oldest;
            undoable = KEPT - 1;
        }
        past[undoable].copyFrom(now.island);
        // Lines of the book are only ever put behind the others, so how many there were is enough.
        pastLines[undoable] = now.book.lines;
        undoable++;
    }

    /**
     * For a sum the count of the fewest above the set of them, in one number: the least such
     * number is the fewest first and the least set then.
     */
    private int fewestWinding(int m) {
        if (sums == null) {
            sums = new int[MOST_SUM + 1];
        }
        Arrays.fill(sums, 0, m + 1, UNREACHED);
        sums[0] = 0;
        Island island = now.island;
        int reach = 0;
        for (int i = 0; i < island.people; i++) {
            int winds = island.isHere(i) ? now.tells(Law.WINDS, i) : 0;
            // Who winds nothing never belongs to the fewest.
            if (winds > 0) {
                reach = Math.min(m, reach + winds);
                addToSums(winds, reach, (1 << PEOPLE) + (1 << i));
            }
        }
        return sums[m];
    }

    private void addToSums(int winds, int reach, int more) {
        for (int sum = reach; sum >= winds; sum--) {
            int without = sums[sum - winds];
            if (without != UNREACHED) {
                sums[sum] = Math.min(sums[sum], without + more);
            }
        }
    }

    /** Who there is and how the clock stands: all that a day can change but the book. */
    private static final class Island {
        final int[] weight = new int[PEOPLE];
        final int[] longs = new int[PEOPLE];
        final int[] left = new int[PEOPLE];
        int people = 0;
        int here = 0;
        int stays = 0;
        int time = 0;
        int wound = 0;
        int struck = 0;
        int turns = 0;
        int school = 1;
        int due = 0;
        int day = 0;
        int draws = 0;

        void copyFrom(Island other) {
            System.arraycopy(other.weight, 0, weight, 0, PEOPLE);
            System.arraycopy(other.longs, 0, longs, 0, PEOPLE);
            System.arraycopy(other.left, 0, left, 0, PEOPLE);
            people = other.people;
            here = other.here;
            stays = other.stays;
            time = other.time;
            wound = other.wound;
            struck = other.struck;
            turns = other.turns;
            school = other.school;
            due = other.due;
            day = other.day;
            draws = other.draws;
        }

        int comes(int weighs, int longing) {
            if (people >= PEOPLE) {
                return NONE;
            }
            weight[people] = weighs;
            longs[people] = longing;
            left[people] = 0;
            here |= 1 << people;
            return people++;
        }

        boolean knows(int who) {
            return who >= 0 && who < people;
        }

        boolean isHere(int who) {
            return (here >> who & 1) == 1;
        }

        boolean isBegged(int who) {
            return (stays >> who & 1) == 1;
        }

        int drawOfThousand() {
            draws = 1664525 * draws + 1013904223;
            return (draws >>> 8) % 1000;
        }

        /** Moves the hands alone, either way. */
        void moveHands(int minutes) {
            int moved = time + minutes;
            turns += Math.floorDiv(moved, ROUND);
            time = Math.floorMod(moved, ROUND);
        }
    }

    /** All that is and was told; the image is a second one, and thought goes on in a third. */
    private static final class World {
        static final int DAY_RUN = 1440;

        final Island island = new Island();
        final Law law = new Law();
        final Plan boats = new Plan();
        final Plan town = new Plan();
        final Kinship kin = new Kinship();
        final Book book = new Book();
        final Puzzles puzzles = new Puzzles();

        void copyFrom(World other) {
            island.copyFrom(other.island);
            law.copyFrom(other.law);
            boats.copyFrom(other.boats);
            town.copyFrom(other.town);
            kin.copyFrom(other.kin);
            book.copyFrom(other.book);
            puzzles.copyFrom(other.puzzles);
        }

        void passDay(boolean inThought) {
            for (int i = 0; i < town.lines; i++) {
                if (town.day[i] == island.day) {
                    happen(town.what[i], town.number[i]);
                }
            }
            for (int i = 0; i < boats.lines; i++) {
                if (boats.day[i] != island.day) {
                    continue;
                }
                if (boats.what[i] == Plan.OUT) {
                    sailOut(boats.number[i], inThought);
                } else {
                    sailBack(boats.number[i], inThought);
                }
            }
            runClock();
            island.day++;
        }

        private void happen(int what, int number) {
            switch (what) {
                case Plan.BEG:
                    island.stays |= 1 << number;
                    break;
                case Plan.FREE:
                    island.stays &= ~(1 << number);
                    break;
                case Plan.SCHOOL:
                    island.school = 1;
                    break;
                case Plan.HOLIDAY:
                    island.school = 0;
                    break;
                case Plan.INTEREST:
                    island.due += number * (island.time / 60);
                    break;
                default:
                    island.moveHands(number);
                    break;
            }
        }

        private void sailOut(int seats, boolean inThought) {
            int room = seats;
            for (int i = 0; i < island.people && room > 0; i++) {
                if (!island.isHere(i) || island.isBegged(i) || !isWilling(Law.LEAVES, i, inThought)) {
                    continue;
                }
                goAboard(i);
                room--;
                for (int k = 0; k < island.people && room > 0; k++) {
                    if (kin.areKin(i, k) && island.isHere(k)) {
                        goAboard(k);
                        room--;
                    }
                }
            }
        }

        private void sailBack(int seats, boolean inThought) {
            int room = seats;
            for (int i = 0; i < island.people && room > 0; i++) {
                if (!island.isHere(i) && isWilling(Law.RETURNS, i, inThought)) {
                    comeBack(i);
                    room--;
                }
            }
        }

        private boolean isWilling(int word, int who, boolean inThought) {
            int chance = tells(word, who);
            if (inThought) {
                return chance >= 500;
            }
            return chance > 0 && island.drawOfThousand() < chance;
        }

        void goAboard(int who) {
            island.here &= ~(1 << who);
            island.left[who]++;
            int winds = tells(Law.WINDS, who);
            island.wound += winds;
            book.write(island.day, Book.LEFT, who, winds);
        }

        void comeBack(int who) {
            island.here |= 1 << who;
            int winds = tells(Law.WINDS, who);
            island.wound -= winds;
            book.write(island.day, Book.BACK, who, winds);
        }

        private void runClock() {
            int minutes = Math.max(-DAY_RUN, Math.min(DAY_RUN, island.wound));
            int strikes = Thinker.strokesOver(island.time, minutes);
            island.moveHands(minutes);
            island.wound -= minutes;
            island.struck += strikes;
            if (strikes > 0) {
                book.write(island.day, Book.STRUCK, NONE, strikes);
            }
            if (minutes == 0) {
                book.write(island.day, Book.STOOD, NONE, island.time);
            }
            if (minutes < 0) {
                book.write(island.day, Book.RAN_BACK, NONE, -minutes);
            }
        }

        int tells(int word, int who) {
            int most = word == Law.WINDS ? 999 : 1000;
            for (int i = 0; i < law.lines; i++) {
                if (law.word[i] != word) {
                    continue;
                }
                boolean always = law.when[i] == law.stop[i];
                if (always || law.run(law.when[i], law.stop[i], this, who) != 0) {
                    return held(law.run(law.start[i], law.when[i], this, who), most);
                }
            }
            switch (word) {
                case Law.LEAVES:
                    return held(80 * island.longs[who], most);
                case Law.WINDS:
                    return held(island.weight[who], most);
                default:
                    return held(500 - 50 * island.longs[who], most);
            }
        }

        private static int held(int v, int most) {
            return Math.max(0, Math.min(most, v));
        }

        int valueOf(int word, int who) {
            switch (word) {
                case Law.WEIGHT:
                    return island.weight[who];
                case Law.LONG:
                    return island.longs[who];
                case Law.LEFT:
                    return island.left[who];
                case Law.HERE:
                    return Integer.bitCount(island.here);
                case Law.PEOPLE_WORD:
                    return island.people;
                case Law.WOUND:
                    return Math.max(-9999, Math.min(9999, island.wound));
                case Law.TIME:
                    return island.time;
                case Law.SCHOOL:
                    return island.school;
                case Law.KIN:
                    return Integer.bitCount(kin.sets[who] & (island.isHere(who) ? ~island.here : island.here));
                default:
                    return island.day;
            }
        }
    }

    /** The law's lines, each as two runs of postfix code: what it is worth, and when. */
    private static final class Law {
        static final String WORDS =
                "leaves winds returns when or and not weight long left here people wound time school kin day ";
        static final int LEAVES = 0;
        static final int WINDS = 1;
        static final int RETURNS = 2;
        static final int WHEN = 3;
        static final int OR = 4;
        static final int AND = 5;
        static final int NOT = 6;
        static final int WEIGHT = 7;
        static final int LONG = 8;
        static final int LEFT = 9;
        static final int HERE = 10;
        static final int PEOPLE_WORD = 11;
        static final int WOUND = 12;
        static final int TIME = 13;
        static final int SCHOOL = 14;
        static final int KIN = 15;
        static final int DAY = 16;

        /** Code below this is a number; from it on a word to look up; from SIGN on what joins values. */
        static final int WORD = 10000;
        static final int SIGN = 20000;
        /** Eight things open at once keep far fewer values waiting. */
        static final int STACK = 64;

        final int[] word = new int[LINES];
        final int[] start = new int[LINES];
        final int[] when = new int[LINES];
        final int[] stop = new int[LINES];
        final int[] code = new int[Tape.MOST];
        final int[] stack = new int[STACK];
        int lines = 0;
        int length = 0;

        void copyFrom(Law other) {
            System.arraycopy(other.word, 0, word, 0, LINES);
            System.arraycopy(other.start, 0, start, 0, LINES);
            System.arraycopy(other.when, 0, when, 0, LINES);
            System.arraycopy(other.stop, 0, stop, 0, LINES);
            System.arraycopy(other.code, 0, code, 0, Tape.MOST);
            lines = other.lines;
            length = other.length;
        }

        void put(int c) {
            if (length < Tape.MOST) {
                code[length++] = c;
            }
        }

        int run(int from, int to, World world, int who) {
            int top = 0;
            for (int i = from; i < to && i < Tape.MOST; i++) {
                int c = code[i];
                if (c < SIGN) {
                    if (top < STACK) {
                        stack[top++] = c < WORD ? c : world.valueOf(c - WORD, who);
                    }
                } else if (c == SIGN + NOT) {
                    if (top > 0) {
                        stack[top - 1] = 1 - stack[top - 1];
                    }
                } else if (top > 1) {
                    top--;
                    stack[top - 1] = joined(c - SIGN, stack[top - 1], stack[top]);
                }
            }
            return top > 0 ? stack[top - 1] : 0;
        }

        private static int joined(int sign, int a, int b) {
            switch (sign) {
                case '+':
                    return a + b;
                case '-':
                    return a - b;
                case '*':
                    return a * b;
                case '/':
                    return b == 0 ? 0 : a / b;
                case '<':
                    return a < b ? 1 : 0;
                case '=':
                    return a == b ? 1 : 0;
                case '>':
                    return a > b ? 1 : 0;
                case AND:
                    return a & b;
                default:
                    return a | b;
            }
        }
    }

    /** What is to be on which day, line by line: the boats, or the town's doings. */
    private static final class Plan {
        static final String BOAT_WORDS = "on boat out back ";
        static final String TOWN_WORDS = "on beg free school holiday interest push ";
        static final int ON = 0;
        static final int BOAT = 1;
        static final int OUT = 2;
        static final int BACK = 3;
        static final int BEG = 1;
        static final int FREE = 2;
        static final int SCHOOL = 3;
        static final int HOLIDAY = 4;
        static final int INTEREST = 5;
        static final int PUSH = 6;

        final int[] day = new int[LINES];
        final int[] what = new int[LINES];
        final int[] number = new int[LINES];
        int lines = 0;

        void copyFrom(Plan other) {
            System.arraycopy(other.day, 0, day, 0, LINES);
            System.arraycopy(other.what, 0, what, 0, LINES);
            System.arraycopy(other.number, 0, number, 0, LINES);
            lines = other.lines;
        }
    }

    /** Of each islander the set of his kin. */
    private static final class Kinship {
        static final String WORDS = "islander kin ";
        static final int ISLANDER = 0;
        static final int KIN = 1;

        final int[] sets = new int[PEOPLE];
        int lines = 0;

        void copyFrom(Kinship other) {
            System.arraycopy(other.sets, 0, sets, 0, PEOPLE);
            lines = other.lines;
        }

        void clear() {
            Arrays.fill(sets, 0);
            lines = 0;
        }

        void join(int a, int b) {
            if (within(a, 0, PEOPLE - 1) && within(b, 0, PEOPLE - 1)) {
                sets[a] |= 1 << b;
                sets[b] |= 1 << a;
            }
        }

        boolean areKin(int a, int b) {
            return (sets[a] >> b & 1) == 1;
        }
    }

    /** Who left and came back, and what the clock did. */
    private static final class Book {
        static final int MOST = 150;
        static final int LEFT = 0;
        static final int BACK = 1;
        static final int STRUCK = 2;
        static final int STOOD = 3;
        static final int RAN_BACK = 4;

        final int[] day = new int[MOST];
        final int[] kind = new int[MOST];
        final int[] who = new int[MOST];
        final int[] much = new int[MOST];
        int lines = 0;

        void copyFrom(Book other) {
            System.arraycopy(other.day, 0, day, 0, MOST);
            System.arraycopy(other.kind, 0, kind, 0, MOST);
            System.arraycopy(other.who, 0, who, 0, MOST);
            System.arraycopy(other.much, 0, much, 0, MOST);
            lines = other.lines;
        }

        void write(int onDay, int what, int whose, int howMuch) {
            if (lines >= MOST) {
                return;
            }
            day[lines] = onDay;
            kind[lines] = what;
            who[lines] = whose;
            much[lines] = howMuch;
            lines++;
        }
    }

    /** What is told for thought alone: wheels, couples, weights to sit, arms with weights. */
    private static final class Puzzles {
        static final int MOST_WHEELS = 5;
        static final int MOST_COUPLES = 8;
        static final int MOST_SEATS = 7;
        static final int MOST_ARMS = 6;

        final int[] teeth = new int[MOST_WHEELS];
        final boolean[] onAxle = new boolean[MOST_WHEELS];
        int wheels = 0;
        /** Each couple as the set of both. */
        final int[] pair = new int[MOST_COUPLES];
        int couples = 0;
        final int[] sitter = new int[MOST_SEATS];
        int sitters = 0;
        final int[] far = new int[MOST_ARMS];
        final int[] load = new int[MOST_ARMS];
        int arms = 0;

        void copyFrom(Puzzles other) {
            System.arraycopy(other.teeth, 0, teeth, 0, MOST_WHEELS);
            for (int i = 0; i < MOST_WHEELS; i++) {
                onAxle[i] = other.onAxle[i];
            }
            System.arraycopy(other.pair, 0, pair, 0, MOST_COUPLES);
            System.arraycopy(other.sitter, 0, sitter, 0, MOST_SEATS);
            System.arraycopy(other.far, 0, far, 0, MOST_ARMS);
            System.arraycopy(other.load, 0, load, 0, MOST_ARMS);
            wheels = other.wheels;
            couples = other.couples;
            sitters = other.sitters;
            arms = other.arms;
        }

        int tellWheel(int has, boolean axle) {
            if (has == NONE) {
                wheels = 0;
                return 0;
            }
            if (!within(has, 6, 99) || wheels >= MOST_WHEELS) {
                return NONE;
            }
            teeth[wheels] = has;
            onAxle[wheels] = axle;
            return ++wheels;
        }

        int tellCouple(int a, int b) {
            if (a == NONE) {
                couples = 0;
                return 0;
            }
            if (!within(a, 0, 5) || !within(b, 0, 5) || a == b || couples >= MOST_COUPLES) {
                return NONE;
            }
            pair[couples] = 1 << a | 1 << b;
            return ++couples;
        }

        int tellSeat(int weight) {
            if (weight == NONE) {
                sitters = 0;
                return 0;
            }
            if (!within(weight, 1, 99) || sitters >= MOST_SEATS) {
                return NONE;
            }
            sitter[sitters] = weight;
            return ++sitters;
        }

        int tellArm(int reach, int weight) {
            if (reach == NONE - 99) {
                arms = 0;
                return 0;
            }
            if (!within(reach, -9, 9) || reach == 0 || !within(weight, 1, 20) || arms >= MOST_ARMS) {
                return NONE;
            }
            far[arms] = reach;
            load[arms] = weight;
            return ++arms;
        }

        /** No couple is among those that are left without the ferryman. */
        boolean isSafe(int group) {
            for (int i = 0; i < couples; i++) {
                if ((group & pair[i]) == pair[i]) {
                    return false;
                }
            }
            return true;
        }

        /** Of the last wheel's turn what 0 above, 1 below, 2 the turns of the first that make all whole. */
        int turnOf(int what) {
            if (wheels == 0) {
                return 0;
            }
            int above = 1;
            int below = 1;
            int whole = 1;
            for (int i = 1; i < wheels; i++) {
                if (onAxle[i]) {
                    continue;
                }
                above = -above * teeth[i - 1];
                below = below * teeth[i];
                int common = Thinker.commonPart(Math.abs(above), below);
                above = above / common;
                below = below / common;
                whole = whole / Thinker.commonPart(whole, below) * below;
            }
            switch (what) {
                case 0:
                    return above;
                case 1:
                    return below;
                default:
                    return whole;
            }
        }
    }

    /** The bytes that were fed, the tokens they are cut into, and the latest fault among them. */
    private static final class Tape {
        static final int MOST = 400;
        /** A token is END, BAD, a sign by its number, WORD and a keyword's, or NUMBER and its worth. */
        static final int END = 0;
        static final int BAD = 1;
        static final int WORD = 200;
        static final int NUMBER = 1000;
        static final String SIGNS = ";+-*/()<=>";

        final int[] bytes = new int[MOST];
        final int[] tokens = new int[MOST + 1];
        final int[] places = new int[MOST + 1];
        int length = 0;
        int count = 0;
        int at = 0;
        /** The one that is to be read next. */
        int token = END;
        int fault = 0;
        int place = NONE;
        /** The number that was taken last. */
        int value = 0;

        void putFour(int number) {
            for (int shift = 24; shift >= 0 && length < MOST; shift -= 8) {
                bytes[length++] = number >>> shift & 255;
            }
        }

        void rewind() {
            fault = 0;
            place = NONE;
        }

        void cut(String words) {
            count = 0;
            at = 0;
            int next = 0;
            for (int i = 0; i < length; i = next) {
                next = i + 1;
                int b = bytes[i];
                if (isLetter(b)) {
                    while (next < length && isLetter(bytes[next])) {
                        next++;
                    }
                    putToken(wordAt(words, i, next), i);
                } else if (isDigit(b)) {
                    while (next < length && isDigit(bytes[next])) {
                        next++;
                    }
                    putToken(numberAt(i, next), i);
                } else if (b != 32 && b != 10) {
                    putToken(SIGNS.indexOf((char) b) >= 0 ? b : BAD, i);
                }
            }
            putToken(END, length);
            token = tokens[0];
        }

        private void putToken(int cut, int where) {
            if (count <= MOST) {
                tokens[count] = cut;
                places[count] = where;
                count++;
            }
        }

        private static boolean isLetter(int b) {
            return b >= 'a' && b <= 'z' || b >= 'A' && b <= 'Z';
        }

        private static boolean isDigit(int b) {
            return b >= '0' && b <= '9';
        }

        private int numberAt(int from, int to) {
            if (to - from > 4) {
                return BAD;
            }
            int worth = 0;
            for (int i = from; i < to && i < MOST; i++) {
                worth = worth * 10 + bytes[i] - '0';
            }
            return NUMBER + worth;
        }

        /** The words stand one behind another, each with a blank behind it. */
        private int wordAt(String words, int from, int to) {
            int start = 0;
            int number = 0;
            for (int i = 0; i < words.length(); i++) {
                if (words.charAt(i) != ' ') {
                    continue;
                }
                if (i - start == to - from && isSame(words, start, i, from)) {
                    return WORD + number;
                }
                start = i + 1;
                number++;
            }
            return BAD;
        }

        private boolean isSame(String words, int start, int stop, int from) {
            for (int i = start; i < stop; i++) {
                int there = from + i - start;
                if (there >= MOST || words.charAt(i) != bytes[there]) {
                    return false;
                }
            }
            return true;
        }

        void pass() {
            if (at + 1 < count) {
                at++;
                token = tokens[at];
            }
        }

        boolean isNumber() {
            return token >= NUMBER;
        }

        boolean isWord(int least, int most) {
            return token >= WORD + least && token <= WORD + most;
        }

        boolean refuse(int why) {
            fault = why;
            place = places[at];
            return false;
        }

        boolean takes(int wanted) {
            if (token != wanted) {
                return refuse(1);
            }
            pass();
            return true;
        }

        boolean takesNumber(int least, int most) {
            if (!isNumber()) {
                return refuse(1);
            }
            value = token - NUMBER;
            if (!within(value, least, most)) {
                return refuse(2);
            }
            pass();
            return true;
        }

        /** Whether line n may begin here, by one of these keywords. */
        boolean opensLine(int n, int least, int most) {
            if (!isWord(least, most)) {
                return refuse(1);
            }
            return n < LINES || refuse(3);
        }
    }

    /** Reads the tape as one of the texts; each way of reading ends at the first fault. */
    private static final class TextReader {
        static final int MOST_OPEN = 8;

        private final Tape tape;

        TextReader(Tape tape) {
            this.tape = tape;
        }

        boolean readLaw(Law law) {
            tape.cut(Law.WORDS);
            law.lines = 0;
            law.length = 0;
            for (int n = 0; n <= LINES && tape.token != Tape.END; n++) {
                if (!tape.opensLine(n, Law.LEAVES, Law.RETURNS) || !readLawLine(law, n)) {
                    return false;
                }
                law.lines = n + 1;
            }
            return true;
        }

        private boolean readLawLine(Law law, int n) {
            law.word[n] = tape.token - Tape.WORD;
            tape.pass();
            law.start[n] = law.length;
            if (!readSum(law)) {
                return false;
            }
            law.when[n] = law.length;
            if (tape.isWord(Law.WHEN, Law.WHEN)) {
                tape.pass();
                if (!readChoice(law, 0)) {
                    return false;
                }
            }
            law.stop[n] = law.length;
            return tape.takes(';');
        }

        /** 'or' and 'and' in one: an 'or' waits until the 'and's behind it are read. */
        private boolean readChoice(Law law, int open) {
            if (!readSingle(law, open)) {
                return false;
            }
            boolean waits = false;
            for (int n = 0; n < Tape.MOST; n++) {
                boolean joins = tape.isWord(Law.AND, Law.AND);
                if (!joins && waits) {
                    law.put(Law.SIGN + Law.OR);
                }
                if (!joins && !tape.isWord(Law.OR, Law.OR)) {
                    return true;
                }
                tape.pass();
                if (!readSingle(law, open)) {
                    return false;
                }
                if (joins) {
                    law.put(Law.SIGN + Law.AND);
                } else {
                    waits = true;
                }
            }
            return tape.refuse(1);
        }

        private boolean readSingle(Law law, int open) {
            boolean denied = tape.isWord(Law.NOT, Law.NOT);
            if (denied || tape.token == '(') {
                if (open >= MOST_OPEN) {
                    return tape.refuse(3);
                }
                tape.pass();
                if (!denied) {
                    return readChoice(law, open + 1) && tape.takes(')');
                }
                if (!readSingle(law, open + 1)) {
                    return false;
                }
                law.put(Law.SIGN + Law.NOT);
                return true;
            }
            if (!readSum(law)) {
                return false;
            }
            int sign = tape.token;
            if (sign != '<' && sign != '=' && sign != '>') {
                return tape.refuse(1);
            }
            tape.pass();
            if (!readSum(law)) {
                return false;
            }
            law.put(Law.SIGN + sign);
            return true;
        }

        /** Sums and products in one: a + or - waits until the products behind it are read. */
        private boolean readSum(Law law) {
            if (!readOperand(law, false)) {
                return false;
            }
            int waits = 0;
            for (int n = 0; n < Tape.MOST; n++) {
                int sign = tape.token;
                boolean product = sign == '*' || sign == '/';
                if (!product && waits != 0) {
                    law.put(Law.SIGN + waits);
                }
                if (!product && sign != '+' && sign != '-') {
                    return true;
                }
                tape.pass();
                if (!readOperand(law, sign == '/')) {
                    return false;
                }
                if (product) {
                    law.put(Law.SIGN + sign);
                } else {
                    waits = sign;
                }
            }
            return tape.refuse(1);
        }

        private boolean readOperand(Law law, boolean divides) {
            int token = tape.token;
            if (tape.isNumber()) {
                if (divides && token == Tape.NUMBER) {
                    return tape.refuse(2);
                }
                law.put(token - Tape.NUMBER);
            } else if (!divides && tape.isWord(Law.WEIGHT, Law.DAY)) {
                law.put(Law.WORD + token - Tape.WORD);
            } else {
                return tape.refuse(1);
            }
            tape.pass();
            return true;
        }

        boolean readBoats(Plan boats) {
            tape.cut(Plan.BOAT_WORDS);
            boats.lines = 0;
            for (int n = 0; n <= LINES && tape.token != Tape.END; n++) {
                if (!tape.opensLine(n, Plan.ON, Plan.ON) || !readBoat(boats, n)) {
                    return false;
                }
                boats.lines = n + 1;
            }
            return true;
        }

        private boolean readBoat(Plan boats, int n) {
            if (!readDay(boats, n) || !tape.takes(Tape.WORD + Plan.BOAT) || !tape.takesNumber(1, PEOPLE)) {
                return false;
            }
            boats.number[n] = tape.value;
            if (!tape.isWord(Plan.OUT, Plan.BACK)) {
                return tape.refuse(1);
            }
            boats.what[n] = tape.token - Tape.WORD;
            tape.pass();
            return tape.takes(';');
        }

        private boolean readDay(Plan plan, int n) {
            tape.pass();
            if (!tape.takesNumber(0, 999)) {
                return false;
            }
            plan.day[n] = tape.value;
            return true;
        }

        boolean readTown(Plan town, int people) {
            tape.cut(Plan.TOWN_WORDS);
            town.lines = 0;
            for (int n = 0; n <= LINES && tape.token != Tape.END; n++) {
                if (!tape.opensLine(n, Plan.ON, Plan.ON) || !readDoing(town, n, people)) {
                    return false;
                }
                town.lines = n + 1;
            }
            return true;
        }

        private boolean readDoing(Plan town, int n, int people) {
            if (!readDay(town, n)) {
                return false;
            }
            if (!tape.isWord(Plan.BEG, Plan.PUSH)) {
                return tape.refuse(1);
            }
            int what = tape.token - Tape.WORD;
            tape.pass();
            town.what[n] = what;
            town.number[n] = 0;
            if (what != Plan.SCHOOL && what != Plan.HOLIDAY) {
                if (!readAmount(what, people)) {
                    return false;
                }
                town.number[n] = tape.value;
            }
            return tape.takes(';');
        }

        private boolean readAmount(int what, int people) {
            switch (what) {
                case Plan.INTEREST:
                    return tape.takesNumber(1, 99);
                case Plan.PUSH:
                    return tape.takesNumber(1, ROUND - 1);
                default:
                    return tape.takesNumber(0, people - 1);
            }
        }

        boolean readKin(Kinship kin, int people) {
            tape.cut(Kinship.WORDS);
            kin.clear();
            for (int n = 0; n <= LINES && tape.token != Tape.END; n++) {
                if (!tape.opensLine(n, Kinship.ISLANDER, Kinship.ISLANDER) || !readKinLine(kin, people)) {
                    return false;
                }
                kin.lines = n + 1;
            }
            return true;
        }

        private boolean readKinLine(Kinship kin, int people) {
            tape.pass();
            if (!tape.takesNumber(0, people - 1)) {
                return false;
            }
            int one = tape.value;
            if (!tape.takes(Tape.WORD + Kinship.KIN)) {
                return false;
            }
            if (tape.token == Tape.NUMBER + one) {
                return tape.refuse(2);
            }
            if (!tape.takesNumber(0, people - 1)) {
                return false;
            }
            kin.join(one, tape.value);
            return tape.takes(';');
        }
    }

    /** What is found out in thought, with rows that are made once and used again. */
    private static final class Thinker {
        static final int ROWS = 1000000;
        static final int SIDE = 64;
        static final int GLASS = 31;
        static final int EVENTS = 2 * GLASS;
        /** No glass runs longer than 30 minutes, so no event lies further ahead than that. */
        static final int AHEAD = 32;

        final int[] worth = new int[60];
        private final int[] bell = new int[8];
        private final int[] crossings = new int[2 * SIDE];
        private final int[] queue = new int[2 * SIDE];
        private final int[] turnings = new int[AHEAD * EVENTS];

        /** How often it strikes while it runs on so many minutes; never while it runs back. */
        static int strokesOver(int time, int minutes) {
            int sum = 0;
            for (int t = time / 60 * 60 + 60; t <= time + minutes; t += 60) {
                int hour = t / 60 % 12;
                sum += hour == 0 ? 12 : hour;
            }
            return sum;
        }

        static int handsApart(int time) {
            int apart = 11 * time % ROUND;
            return Math.min(apart, ROUND - apart);
        }

        static int minutesApartBy(int apart) {
            int found = 0;
            for (int time = 0; time < ROUND; time++) {
                if (handsApart(time) == apart) {
                    found++;
                }
            }
            return found;
        }

        /** The greatest number that goes into both; 1 at least, so that it may always divide. */
        static int commonPart(int a, int b) {
            int x = a;
            int y = b;
            for (int i = 0; i < 64 && y != 0; i++) {
                int rest = x % y;
                x = y;
                y = rest;
            }
            return Math.max(1, x);
        }

        /** Goes through (who is over, on which side is the boat) by crossings, nearest first. */
        int fewestCrossings(Puzzles puzzles, int n, int b) {
            int all = (1 << n) - 1;
            Arrays.fill(crossings, NONE);
            crossings[0] = 0;
            queue[0] = 0;
            int tail = 1;
            for (int head = 0; head < tail && head < queue.length; head++) {
                int state = queue[head];
                int over = state % SIDE;
                if (over == all) {
                    return crossings[state];
                }
                boolean back = state >= SIDE;
                int ashore = back ? over : all & ~over;
                for (int load = 0; load <= all; load++) {
                    boolean fits = (load & ~ashore) == 0 && Integer.bitCount(load) <= b;
                    int next = (over ^ load) + (back ? 0 : SIDE);
                    boolean isNew = crossings[next] == NONE && tail < queue.length;
                    if (fits && isNew && puzzles.isSafe(ashore & ~load)) {
                        crossings[next] = crossings[state] + 1;
                        queue[tail++] = next;
                    }
                }
            }
            return NONE;
        }

        /** Goes through the minutes at which a glass runs out, and what the other has left then. */
        int fewestTurnings(int a, int b, int t) {
            Arrays.fill(turnings, UNREACHED);
            turnInto(0, a, b, 0);
            int best = UNREACHED;
            for (int minute = 1; minute <= t; minute++) {
                int base = minute % AHEAD * EVENTS;
                for (int event = 0; event < EVENTS; event++) {
                    int cost = turnings[base + event];
                    if (cost == UNREACHED) {
                        continue;
                    }
                    turnings[base + event] = UNREACHED;
                    if (minute == t) {
                        best = Math.min(best, cost);
                        continue;
                    }
                    int x = event < GLASS ? 0 : event - GLASS;
                    int y = event < GLASS ? event : 0;
                    turnInto(minute, x, y, cost);
                    turnInto(minute, a - x, y, cost + 1);
                    turnInto(minute, x, b - y, cost + 1);
                    turnInto(minute, a - x, b - y, cost + 2);
                }
            }
            return best == UNREACHED ? NONE : best;
        }

        /** Both glasses run with x and y above, till the next of them runs out. */
        private void turnInto(int minute, int x, int y, int cost) {
            int run = x == 0 || y == 0 ? Math.max(x, y) : Math.min(x, y);
            if (run <= 0 || run >= AHEAD) {
                return;
            }
            int restX = Math.max(0, x - run);
            int restY = Math.max(0, y - run);
            int event = restX == 0 ? restY : GLASS + restX;
            int there = (minute + run) % AHEAD * EVENTS + event;
            if (event < EVENTS) {
                turnings[there] = Math.min(turnings[there], cost);
            }
        }

        private static int waysToSit(Puzzles puzzles, int i, int taken, int sum) {
            if (i >= puzzles.sitters || i >= Puzzles.MOST_SEATS) {
                return sum == 0 ? 1 : 0;
            }
            int ways = 0;
            for (int seat = 0; seat < 7; seat++) {
                if ((taken >> seat & 1) == 0) {
                    ways += waysToSit(puzzles, i + 1, taken | 1 << seat, sum + puzzles.sitter[i] * (seat - 3));
                }
            }
            return ways;
        }

        /** The least lean, times ROWS, and the least row of arms that has it. */
        private static int leastLean(Puzzles puzzles, int i, int taken, int sum, int row) {
            if (i >= puzzles.arms || i >= Puzzles.MOST_ARMS) {
                return Math.abs(sum) * ROWS + row;
            }
            int best = UNREACHED;
            for (int arm = 0; arm < puzzles.arms; arm++) {
                if ((taken >> arm & 1) == 0) {
                    int leans = sum + puzzles.load[i] * puzzles.far[arm];
                    best = Math.min(best, leastLean(puzzles, i + 1, taken | 1 << arm, leans, row * 10 + arm));
                }
            }
            return best;
        }

        static int quotients(int a, int b) {
            int x = a;
            int y = b;
            int count = 0;
            for (int i = 0; i < 64 && y != 0; i++) {
                int rest = x % y;
                x = y;
                y = rest;
                count++;
            }
            return count;
        }

        /** Kind 1: quotient i; 2, 3: above and below of the fraction that comes of those to the i-th. */
        static int partOf(int a, int b, int kind, int i) {
            int x = a;
            int y = b;
            int above = 1;
            int aboveBefore = 0;
            int below = 0;
            int belowBefore = 1;
            for (int n = 0; n <= i && y != 0; n++) {
                int quotient = x / y;
                int rest = x % y;
                x = y;
                y = rest;
                int aboveNext = quotient * above + aboveBefore;
                aboveBefore = above;
                above = aboveNext;
                int belowNext = quotient * below + belowBefore;
                belowBefore = below;
                below = belowNext;
                if (n == i) {
                    return kind == 1 ? quotient : kind == 2 ? above : below;
                }
            }
            return NONE;
        }

        private void ringInOrder(int n) {
            for (int i = 0; i < n; i++) {
                bell[i] = i;
            }
        }

        /** The changes by turns begin at place 0 and at place 1. */
        private void change(int n, int number) {
            for (int i = number % 2; i + 1 < n; i += 2) {
                int first = bell[i];
                bell[i] = bell[i + 1];
                bell[i + 1] = first;
            }
        }

        private boolean isInOrder(int n) {
            for (int i = 0; i < n; i++) {
                if (bell[i] != i) {
                    return false;
                }
            }
            return true;
        }

        int changesTillInOrder(int n) {
            ringInOrder(n);
            for (int number = 0; number < 2 * n; number++) {
                change(n, number);
                if (isInOrder(n)) {
                    return number + 1;
                }
            }
            return 2 * n;
        }

        int bellAt(int n, int k, int p) {
            // Behind 2n changes, an even number, all begins anew.
            int changes = n > 0 ? k % (2 * n) : 0;
            ringInOrder(n);
            for (int number = 0; number < changes; number++) {
                change(n, number);
            }
            return bell[p];
        }

        /** Whom i meets; the last one is nobody, if n is odd. */
        static int opponent(int n, int r, int i) {
            int last = n % 2 == 0 ? n - 1 : n;
            if (i == last) {
                return meetsLast(last, r);
            }
            int other = Math.floorMod(r - i, Math.max(1, last));
            if (other != i) {
                return other;
            }
            return last == n ? NONE : last;
        }

        private static int meetsLast(int last, int r) {
            for (int j = 0; j < last; j++) {
                if (2 * j % last == r % last) {
                    return j;
                }
            }
            return NONE;
        }

        static int firstMeeting(int s, int p, int t, int q) {
            int waits = t > s ? (t - s + p - 1) / p : 0;
            int minute = s + waits * p;
            for (int i = 0; i < q; i++) {
                if ((minute - t) % q == 0) {
                    return minute;
                }
                minute += p;
            }
            return NONE;
        }

        /** Finds what each hour is worth to who moves from it: each round settles one hour at least. */
        void judgeHours(int n, int set) {
            Arrays.fill(worth, 0);
            boolean settles = set != 0;
            for (int round = 0; round <= n && settles; round++) {
                settles = false;
                // Hands go forwards, so the hours before 0 settle those before them in the same round.
                for (int hour = n - 1; hour >= 0; hour--) {
                    int found = worth[hour] == 0 ? bestFrom(n, set, hour) : 0;
                    if (found != 0) {
                        worth[hour] = found;
                        settles = true;
                    }
                }
            }
        }

        private int bestFrom(int n, int set, int hour) {
            int best = -1;
            for (int step = 1; step <= 10; step++) {
                if ((set >> step - 1 & 1) == 1) {
                    best = Math.max(best, worthOfStep(n, hour, step));
                }
            }
            return best;
        }

        private int worthOfStep(int n, int hour, int step) {
            int next = (hour + step) % n;
            return next == 0 ? 1 : -worth[next];
        }

        int stepThatKeeps(int n, int set, int hour) {
            for (int step = 1; step <= 10; step++) {
                if ((set >> step - 1 & 1) == 1 && worthOfStep(n, hour, step) == worth[hour]) {
                    return step;
                }
            }
            return NONE;
        }
    }
}
