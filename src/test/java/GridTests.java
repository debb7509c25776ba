import java.lang.reflect.Method;
import java.util.Arrays;
import java.util.TreeSet;

/**
 * Every number that a call takes at, just within and just beyond its bounds, in all ways together: each answer is held
 * against that of Plain. So no bound hides behind another number that is wrong as well.
 */
final class GridTests extends Bench {
    /** What is free behind an object's 512th call is not asked. */
    private static final int MOST_CALLS = 480;

    private final String name;
    private final int[][] values;
    private RopeClock clock;
    private Plain plain;
    private int calls = MOST_CALLS;

    private GridTests(String name, int[]... values) {
        this.name = name;
        this.values = values;
    }

    public static void main(String[] args) throws Exception {
        grid("islander", edges(1, 200), edges(0, 9));
        grid("set", edges(0, 4), edges(0, 2), edges(0, 9, 1, 200, 0, 719, -9999, 9999));
        grid("act", edges(0, 3), edges(0, 2));
        grid("days", edges(1, 60));
        grid("end", edges(0, 20));
        grid("text", edges(0, 3));
        grid("fault", edges(0, 1));
        grid("of", edges(0, 2), edges(0, 8));
        grid("book", edges(0, 5), edges(0, 3));
        grid("goes", edges(1, 60), edges(0, 3));
        grid("must", edges(0, 9999, 100, 160, 30, 90), edges(0, 1));
        grid("strokes", edges(0, 719, 59, 61, 659, 661), edges(0, 719, 59, 61, 659, 661));
        grid("hands", edges(0, 719, 0, 360, 32, 34), edges(0, 1));
        grid("wheels", edges(0, 2));
        grid("couple", edges(0, 5), edges(0, 5));
        grid("ferry", edges(1, 6), edges(1, 3));
        grid("glasses", edges(1, 30), edges(1, 30), edges(1, 120, 29, 31, 59, 61));
        grid("seat", edges(1, 99));
        grid("part", edges(1, 9999), edges(1, 9999), edges(0, 0, 100, 102, 200, 202, 300, 302, 399, 400));
        grid("bells", edges(3, 8), edges(0, 1000000), edges(-1, 7, 2, 3));
        grid("against", edges(2, 16), edges(0, 999, 14, 16), edges(0, 15, 1, 2));
        grid("calendar", calendars(), edges(0, 9999, 399, 401), edges(0, 1));
        grid("rope", edges(0, 20), edges(1, 9), edges(0, 1));
        grid("meets", edges(0, 499), edges(1, 500), edges(0, 499), edges(1, 500));
        grid("arm", edges(-9, 9, -1, 1, -100, -99), edges(1, 20));
        grid("hung", edges(0, 1));
        grid("game", edges(2, 60), edges(0, 1023), edges(0, 59, 1, 2), edges(0, 1));
        grid("look", edges(0, 15));
        finish("GridTests");
    }

    /** For each least and most what lies at them and one to either side, and the farthest numbers. */
    private static int[] edges(int... bounds) {
        TreeSet<Integer> all = new TreeSet<>();
        all.add(Integer.MIN_VALUE);
        all.add(Integer.MAX_VALUE);
        for (int b : bounds) {
            all.add(b - 1);
            all.add(b);
            all.add(b + 1);
        }
        return all.stream().mapToInt(Integer::intValue).toArray();
    }

    private static int[] calendars() {
        TreeSet<Integer> all = new TreeSet<>();
        for (int b : new int[] {-1, 0, 1, 2, 399, 400, 401, 999}) {
            for (int a : new int[] {-400, -1, 0, 1, b - 1, b, b + 1}) {
                all.add(1000 * a + b);
            }
        }
        all.add(Integer.MIN_VALUE);
        all.add(Integer.MAX_VALUE);
        return all.stream().mapToInt(Integer::intValue).toArray();
    }

    private static void grid(String name, int[]... values) throws Exception {
        promise = name;
        GridTests g = new GridTests(name, values);
        g.all(0, new Object[values.length]);
    }

    private void all(int i, Object[] args) throws Exception {
        if (i == args.length) {
            one(args);
            return;
        }
        for (int v : values[i]) {
            args[i] = v;
            all(i + 1, args);
        }
    }

    private void one(Object[] args) throws Exception {
        boolean tells = "islander set act days end text couple seat arm".contains(name);
        if (tells || calls >= MOST_CALLS) {
            begin();
        }
        calls++;
        Class<?>[] types = new Class<?>[args.length];
        Arrays.fill(types, int.class);
        Method asked = RopeClock.class.getMethod(name, types);
        Method due = Plain.class.getDeclaredMethod(name, types);
        String call = name + Arrays.toString(args) + " ";
        same(call + due.invoke(plain, args), call + asked.invoke(clock, args));
    }

    /** Three islanders, one of whom is not here, with a law and a boat, and some of what is told for thought. */
    private void begin() throws Exception {
        clock = new RopeClock();
        plain = new Plain();
        calls = 0;
        both("islander", 100, 9);
        both("islander", 60, 7);
        both("islander", 30, 0);
        both("act", 0, 1);
        both("act", 2, 0);
        both("days", 2);
        both("wheel", 20, false);
        both("wheel", 45, false);
        both("couple", 0, 1);
        both("couple", 2, 1);
        both("couple", 3, 5);
        both("seat", 4);
        both("arm", -3, 7);
        both("arm", 2, 9);
        // "on 2 boat 3 back;on " of which the last three are cut; and then a tape of twenty that is no text.
        both("feed", 0x6F6E2032, 0x20626F61, 0x74203320, 0x6261636B, 0x3B6F6E20);
        both("end", 17);
        both("text", 1);
        both("act", 3, 0);
        both("feed", 0x6F6E2032, 0x20626F61, 0x74203320, 0x6261636B, 0x3B6F6E20);
    }

    private void both(String method, Object... args) throws Exception {
        Class<?>[] types = new Class<?>[args.length];
        for (int i = 0; i < args.length; i++) {
            types[i] = args[i] instanceof Boolean ? boolean.class : int.class;
        }
        Plain.class.getDeclaredMethod(method, types).invoke(plain, args);
        RopeClock.class.getMethod(method, types).invoke(clock, args);
        calls++;
    }
}
