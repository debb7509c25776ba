import java.util.function.IntUnaryOperator;

/** What the tests share: answers are counted, texts told, and bounds tried on either side. */
class Bench {
    static int wrong = 0;
    static int checked = 0;
    /** The promise, or the document's sentence, that is tried now. */
    static String promise = "";

    static void due(long want, long got) {
        checked++;
        if (want != got) {
            wrong++;
            System.out.println(promise + ", " + place() + ": answered " + got + ", due is " + want);
        }
    }

    static void due(boolean want, boolean got) {
        due(want ? 1 : 0, got ? 1 : 0);
    }

    static void same(String want, String got) {
        checked++;
        if (!want.equals(got)) {
            wrong++;
            System.out.println(promise + ", " + place() + ":\n  answered " + got + "\n  due is   " + want);
        }
    }

    private static String place() {
        for (StackTraceElement at : new Throwable().getStackTrace()) {
            if (!at.getClassName().equals("Bench")) {
                return "line " + at.getLineNumber();
            }
        }
        return "nowhere";
    }

    static void finish(String name) {
        System.out.println(name + ": " + checked + " answers, " + wrong + " wrong");
        if (wrong != 0) {
            System.exit(1);
        }
    }

    /** Within its bounds a number is taken, beyond them, near or far, the call answers with the refusal. */
    static void bounds(int least, int most, int refusal, IntUnaryOperator call) {
        for (int v : new int[] {least, Math.min(least + 1, most), Math.max(most - 1, least), most}) {
            boolean taken = call.applyAsInt(v) != refusal;
            if (!taken) {
                System.out.println("  " + v + " is refused");
            }
            due(true, taken);
        }
        for (long v : new long[] {least - 1L, most + 1L, Integer.MIN_VALUE, Integer.MAX_VALUE}) {
            due(refusal, call.applyAsInt((int) v));
        }
    }

    static void put(RopeClock x, String s) {
        StringBuilder padded = new StringBuilder(s);
        while (padded.length() % 20 != 0) {
            padded.append(' ');
        }
        x.end(0);
        for (int i = 0; i < padded.length(); i += 20) {
            x.feed(four(padded, i), four(padded, i + 4), four(padded, i + 8), four(padded, i + 12), four(padded, i + 16));
        }
        x.end(s.length());
    }

    private static int four(CharSequence s, int i) {
        return s.charAt(i) << 24 | s.charAt(i + 1) << 16 | s.charAt(i + 2) << 8 | s.charAt(i + 3);
    }

    static int tell(RopeClock x, int k, String s) {
        put(x, s);
        return x.text(k);
    }

    /** The text is refused with this fault, the one in force stays, and the tape is empty. */
    static void faulty(RopeClock x, int k, String s, int fault, int place) {
        int lines = x.look(11 + k);
        due(-1, tell(x, k, s));
        if (x.fault(0) != fault || x.fault(1) != place) {
            System.out.println("  text " + k + ": " + s + ": fault " + x.fault(0) + " at " + x.fault(1));
        }
        due(fault, x.fault(0));
        due(place, x.fault(1));
        due(lines, x.look(11 + k));
        due(false, x.end(1));
    }

    static RopeClock with(int... weightsAndLongs) {
        RopeClock x = new RopeClock();
        for (int i = 0; i + 1 < weightsAndLongs.length; i += 2) {
            x.islander(weightsAndLongs[i], weightsAndLongs[i + 1]);
        }
        return x;
    }

    /** So many islanders, of weight 1, 2, .. who all long by 5. */
    static RopeClock town(int people) {
        RopeClock x = new RopeClock();
        for (int i = 0; i < people; i++) {
            x.islander(i + 1, 5);
        }
        return x;
    }

    static String times(int n, String s) {
        return s.repeat(n);
    }

    static void row(RopeClock x, int i, int day, int what, int who, int much) {
        due(day, x.book(i, 0));
        due(what, x.book(i, 1));
        due(who, x.book(i, 2));
        due(much, x.book(i, 3));
    }
}
