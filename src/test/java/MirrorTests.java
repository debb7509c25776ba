import java.lang.reflect.Method;
import java.util.ArrayList;
import java.util.Arrays;
import java.util.Comparator;
import java.util.List;
import java.util.Random;

/** Runs of random calls on RopeClock and on Plain: each answer must be the same. */
final class MirrorTests {
    private static final int RUNS = 900;
    /** An object's 512th call is the last whose answer is promised. */
    private static final int MOST = 512;
    /** A text of 400 bytes takes so many calls to tell. */
    private static final int TELLING = 28;
    private static int wrong = 0;
    private static long calls = 0;

    private final Random random;
    private final RopeClock clock = new RopeClock();
    private final Plain plain = new Plain();
    private final List<String> trace = new ArrayList<>();
    private boolean failed = false;
    private int people = 0;
    /** How often the clock was called. */
    private int used = 0;
    private int today = 0;

    private MirrorTests(long seed) {
        random = new Random(seed);
    }

    public static void main(String[] args) throws Exception {
        int runs = args.length > 0 ? Integer.parseInt(args[0]) : RUNS;
        List<Method> face = new ArrayList<>();
        for (Method m : RopeClock.class.getDeclaredMethods()) {
            if (java.lang.reflect.Modifier.isPublic(m.getModifiers())) {
                face.add(m);
            }
        }
        face.sort(Comparator.comparing(Method::getName));
        if (face.size() != 35) {
            System.out.println("the face has " + face.size() + " methods");
            wrong++;
        }
        for (int seed = 0; seed < runs && wrong < 5; seed++) {
            new MirrorTests(seed).run(face);
        }
        System.out.println("MirrorTests: " + calls + " calls, " + wrong + " wrong");
        if (wrong != 0) {
            System.exit(1);
        }
    }

    private void run(List<Method> face) throws Exception {
        int most = random.nextInt(19);
        for (int i = 0; i < most; i++) {
            call("islander", 1 + random.nextInt(200), random.nextInt(10));
        }
        if (random.nextInt(3) > 0) {
            for (int k = 0; k < 4; k++) {
                tell(k, random.nextInt(8) == 0);
            }
        }
        while (used < MOST - 100 - TELLING && !failed) {
            int dice = random.nextInt(100);
            if (dice < 6) {
                tell(random.nextInt(4), random.nextInt(2) == 0);
            } else if (dice < 22) {
                call("look", random.nextInt(18) - 1);
            } else if (dice < 30) {
                call("days", random.nextInt(4) == 0 ? near(0, 61) : 1 + random.nextInt(3));
            } else if (dice < 40) {
                call("of", random.nextInt(20) - 1, random.nextInt(11) - 1);
            } else if (dice < 45) {
                call("book", random.nextInt(152) - 1, random.nextInt(6) - 1);
            } else {
                any(face.get(random.nextInt(face.size())));
            }
        }
        for (int what = 0; what < 16 && !failed; what++) {
            call("look", what);
        }
        int lines = Math.max(1, clock.look(9));
        for (used++; used < MOST && !failed;) {
            call("book", lines - 1 - random.nextInt(Math.min(lines, 20)), random.nextInt(4));
        }
    }

    /** A number within or a little beyond these bounds, seldom a wild one. */
    private int near(int least, int most) {
        int dice = random.nextInt(40);
        if (dice == 0) {
            return random.nextInt();
        }
        if (dice == 1) {
            return least - 1;
        }
        if (dice == 2) {
            return most + 1;
        }
        return least + random.nextInt(most - least + 1);
    }

    private void any(Method m) throws Exception {
        switch (m.getName()) {
            case "state": if (random.nextInt(4) == 0) { call("state", random.nextInt()); } break;
            case "islander": if (random.nextInt(6) == 0) { call("islander", near(1, 200), near(0, 9)); } break;
            case "set": call("set", near(0, 4), near(0, Math.max(0, people - 1)), random.nextInt(3) == 0
                    ? near(-9999, 9999) : near(0, random.nextBoolean() ? 9 : 719)); break;
            case "act": call("act", near(0, 3), near(0, Math.max(0, people - 1))); break;
            case "days": call("days", near(1, 60)); break;
            case "feed": call("feed", random.nextInt(), random.nextInt(), 538976288, 0, 1); break;
            case "end": call("end", near(0, 40)); break;
            case "text": call("text", near(0, 3)); break;
            case "fault": call("fault", near(0, 1)); break;
            case "of": call("of", near(0, 17), near(0, 8)); break;
            case "book": call("book", near(0, 149), near(0, 3)); break;
            case "goes": call("goes", near(1, 60), near(0, 3)); break;
            case "must": if (people <= 12 || random.nextInt(8) == 0) {
                call("must", random.nextInt(3) == 0 ? near(0, 9999) : near(0, 700), near(0, 1)); } break;
            case "strokes": call("strokes", near(0, 719), near(0, 719)); break;
            case "hands": call("hands", near(0, random.nextBoolean() ? 719 : 360), near(0, 1)); break;
            case "wheel": call("wheel", random.nextInt(12) == 0 ? -1 : near(6, 99), random.nextBoolean()); break;
            case "wheels": call("wheels", near(0, 2)); break;
            case "couple": call("couple", random.nextInt(12) == 0 ? -1 : near(0, 5), near(0, 5)); break;
            case "ferry": call("ferry", near(1, 6), near(1, 3)); break;
            case "glasses": call("glasses", near(1, 30), near(1, 30), near(1, random.nextBoolean() ? 120 : 30)); break;
            case "seat": call("seat", random.nextInt(12) == 0 ? -1 : near(1, random.nextBoolean() ? 5 : 99)); break;
            case "level": if (random.nextInt(6) == 0) { call("level"); } break;
            case "part": call("part", near(1, 9999), near(1, random.nextBoolean() ? 99 : 9999),
                    random.nextInt(4) == 0 ? 0 : 100 * (1 + random.nextInt(4)) + near(0, 9)); break;
            case "bells": call("bells", near(3, 8), near(0, random.nextInt(20) == 0 ? 1000000 : 50), near(-1, 7)); break;
            case "against": call("against", near(2, 16), near(0, 999), near(0, 15)); break;
            case "calendar": call("calendar", near(0, 400) * 1000 + near(0, 400), near(0, 9999), near(0, 1)); break;
            case "rope": call("rope", near(0, random.nextInt(9) == 0 ? 20 : 10), near(1, 9), near(0, 1)); break;
            case "meets": call("meets", near(0, 499), near(1, 500), near(0, 499), near(1, 500)); break;
            case "arm": call("arm", random.nextInt(12) == 0 ? -100 : near(-9, 9), near(1, 20)); break;
            case "hung": if (random.nextInt(20) == 0) { call("hung", near(0, 1)); } break;
            case "game": call("game", near(2, 60), near(0, random.nextBoolean() ? 1023 : 15),
                    near(0, random.nextBoolean() ? 59 : 1), near(0, 1)); break;
            case "image": call("image", random.nextInt(3) == 0); break;
            case "look": call("look", near(0, 15)); break;
            default: call(m.getName()); break;
        }
    }

    private static boolean same(Object a, Object b) {
        return a.equals(b);
    }

    private Object call(String name, Object... args) throws Exception {
        if (failed) {
            return 0;
        }
        Class<?>[] types = new Class<?>[args.length];
        for (int i = 0; i < args.length; i++) {
            types[i] = args[i] instanceof Boolean ? boolean.class : int.class;
        }
        Object due = Plain.class.getDeclaredMethod(name, types).invoke(plain, args);
        Object got;
        try {
            got = RopeClock.class.getMethod(name, types).invoke(clock, args);
        } catch (java.lang.reflect.InvocationTargetException e) {
            got = "" + e.getCause();
        }
        calls++;
        used++;
        trace.add(name + Arrays.toString(args) + " -> " + got);
        if (!same(due, got)) {
            wrong++;
            failed = true;
            System.out.println(String.join("\n", trace.subList(Math.max(0, trace.size() - 25), trace.size())));
            System.out.println("due was " + due);
        }
        if (name.equals("islander") || name.equals("image")) {
            people = clock.look(0);
            used++;
        }
        return got;
    }

    private void tell(int k, boolean spoilt) throws Exception {
        StringBuilder s = new StringBuilder();
        today = clock.look(8);
        used++;
        int lines = random.nextInt(12) == 0 ? 15 + random.nextInt(3) : random.nextInt(7);
        for (int i = 0; i < lines && s.length() < 330; i++) {
            s.append(k == 0 ? lawLine() : k == 1 ? boatLine() : k == 2 ? townLine() : kinLine());
            s.append(pick("", "", " ", "\n"));
        }
        if (spoilt) {
            spoil(s);
        }
        if (s.length() > 400) {
            s.setLength(400);
        }
        call("end", 0);
        byte[] padded = Arrays.copyOf(s.toString().getBytes(java.nio.charset.StandardCharsets.ISO_8859_1),
                (s.length() + 19) / 20 * 20);
        java.nio.ByteBuffer ints = java.nio.ByteBuffer.wrap(padded);
        while (ints.remaining() > 0) {
            call("feed", ints.getInt(), ints.getInt(), ints.getInt(), ints.getInt(), ints.getInt());
        }
        call("end", s.length());
        Object got = call("text", k);
        trace.add("  (text " + k + " was: " + s + ")");
        call("fault", 0);
        call("fault", 1);
        boolean tooDeep = clock.fault(0) == 3;
        used++;
        if (!spoilt && !tooDeep && lines < 16 && s.length() < 330 && people > 1 && got.equals(-1)) {
            wrong++;
            System.out.println("a good text was refused: " + s);
        }
    }

    private void spoil(StringBuilder s) {
        int times = 1 + random.nextInt(2);
        for (int i = 0; i < times; i++) {
            int at = s.length() == 0 ? 0 : random.nextInt(s.length());
            int dice = random.nextInt(4);
            if (dice == 0 && s.length() > 0) {
                s.deleteCharAt(at);
            } else if (dice == 1) {
                s.setLength(at);
            } else {
                s.insert(at, pick(";", "(", ")", " not ", "0", "9", "x", "Z", " ", " kin ", " 0 ", " 1000 ", "/0", "=", "+",
                        "12345", "\t", "" + (char) 200, " on ", " when ", "?", " or ", " islander ", " boat "));
            }
        }
    }

    private String pick(String... of) {
        return of[random.nextInt(of.length)];
    }

    private String blank() {
        return pick(" ", " ", "  ", "\n");
    }

    private String lawLine() {
        String line = pick("leaves", "winds", "returns") + blank() + sum();
        if (random.nextInt(2) == 0) {
            int open = random.nextInt(20) == 0 ? 7 + random.nextInt(3) : 0;
            line += " when " + choice(open);
        }
        return line + pick("", " ") + ";";
    }

    private String sum() {
        String s = product();
        while (random.nextInt(3) == 0) {
            s += pick("+", "-", " + ") + product();
        }
        return s;
    }

    private String product() {
        String s = operand();
        while (random.nextInt(3) == 0) {
            s += random.nextBoolean() ? "*" + operand() : "/" + (1 + random.nextInt(30));
        }
        return s;
    }

    private String operand() {
        return random.nextBoolean() ? "" + random.nextInt(random.nextInt(3) == 0 ? 10000 : 1100) : pick("weight", "long",
                "left", "here", "people", "wound", "time", "school", "kin", "day", "kin", "long*60");
    }

    private String choice(int open) {
        String s = single(open);
        while (random.nextInt(3) == 0) {
            s += pick(" or ", " and ") + single(open);
        }
        return s;
    }

    private String single(int open) {
        if (open > 0) {
            return random.nextBoolean() ? " not " + single(open - 1) : "(" + single(open - 1) + ")";
        }
        int dice = random.nextInt(6);
        if (dice == 0) {
            return "not " + single(0);
        }
        if (dice == 1) {
            return "(" + choice(0) + ")";
        }
        return sum() + pick("<", "=", ">", " > ") + sum();
    }

    private int soon() {
        return random.nextInt(3) == 0 ? random.nextInt(60) : Math.min(999, today + random.nextInt(6));
    }

    private String boatLine() {
        return "on " + soon() + " boat " + (1 + random.nextInt(18)) + pick(" out;", " back;", " out ;");
    }

    private String townLine() {
        int who = people == 0 ? 0 : random.nextInt(people);
        return "on " + soon() + pick(" beg " + who, " free " + who, " school", " holiday",
                " interest " + (1 + random.nextInt(99)), " push " + (1 + random.nextInt(719))) + ";";
    }

    private String kinLine() {
        int a = people == 0 ? 0 : random.nextInt(people);
        int b = people < 2 ? 1 : (a + 1 + random.nextInt(people - 1)) % people;
        return "islander " + a + " kin " + b + ";";
    }
}
