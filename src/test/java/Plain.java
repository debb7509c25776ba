import java.util.ArrayList;
import java.util.HashMap;
import java.util.HashSet;
import java.util.List;
import java.util.Map;
import java.util.Set;

/**
 * The document once more, in the slowest and most literal way: minute by minute, set by set, way by way.
 * MirrorTests holds RopeClock against it.
 */
final class Plain {
    static final int NONE = -1;

    static final class Fault extends RuntimeException {
        private static final long serialVersionUID = 1L;
        final int kind;
        final int place;

        Fault(int kind, int place) {
            super("fault " + kind + " at " + place);
            this.kind = kind;
            this.place = place;
        }
    }

    static final class Person {
        int weight;
        int longs;
        boolean here = true;
        boolean stays = false;
        int left = 0;

        Person copy() {
            Person p = new Person();
            p.weight = weight;
            p.longs = longs;
            p.here = here;
            p.stays = stays;
            p.left = left;
            return p;
        }
    }

    /** A part of an expression: a leaf has a word or a number, others two parts. */
    record Node(String op, int number, Node a, Node b) {
    }

    record LawLine(String word, Node sum, Node when) {
    }

    record DayLine(int day, String what, int number, boolean out) {
    }

    static final class All {
        List<Person> people = new ArrayList<>();
        int state = 0;
        int time = 0;
        int wound = 0;
        int struck = 0;
        int turns = 0;
        int school = 1;
        int due = 0;
        int day = 0;
        List<int[]> book = new ArrayList<>();
        List<LawLine> law = new ArrayList<>();
        List<DayLine> boats = new ArrayList<>();
        List<DayLine> town = new ArrayList<>();
        List<int[]> kin = new ArrayList<>();
        List<int[]> wheels = new ArrayList<>();
        List<int[]> couples = new ArrayList<>();
        List<Integer> seats = new ArrayList<>();
        List<int[]> arms = new ArrayList<>();

        All copy() {
            All c = new All();
            for (Person p : people) {
                c.people.add(p.copy());
            }
            c.state = state;
            c.time = time;
            c.wound = wound;
            c.struck = struck;
            c.turns = turns;
            c.school = school;
            c.due = due;
            c.day = day;
            c.book.addAll(book);
            c.law.addAll(law);
            c.boats.addAll(boats);
            c.town.addAll(town);
            c.kin.addAll(kin);
            c.wheels.addAll(wheels);
            c.couples.addAll(couples);
            c.seats.addAll(seats);
            c.arms.addAll(arms);
            return c;
        }
    }

    private All all = new All();
    private All image = null;
    private List<All> undos = new ArrayList<>();
    private StringBuilder tape = new StringBuilder();
    private int fault = 0;
    private int place = NONE;

    // ---- the law

    private boolean areKin(All w, int i, int j) {
        for (int[] k : w.kin) {
            if (k[0] == i && k[1] == j || k[0] == j && k[1] == i) {
                return true;
            }
        }
        return false;
    }

    private int value(All w, Node n, int who) {
        Person p = w.people.get(who);
        switch (n.op) {
            case "number": return n.number;
            case "weight": return p.weight;
            case "long": return p.longs;
            case "left": return p.left;
            case "here": return (int) w.people.stream().filter(x -> x.here).count();
            case "people": return w.people.size();
            case "wound": return w.wound > 9999 ? 9999 : w.wound < -9999 ? -9999 : w.wound;
            case "time": return w.time;
            case "school": return w.school;
            case "day": return w.day;
            case "kin": {
                int apart = 0;
                for (int j = 0; j < w.people.size(); j++) {
                    if (areKin(w, who, j) && w.people.get(j).here != p.here) {
                        apart++;
                    }
                }
                return apart;
            }
            case "+": return value(w, n.a, who) + value(w, n.b, who);
            case "-": return value(w, n.a, who) - value(w, n.b, who);
            case "*": return value(w, n.a, who) * value(w, n.b, who);
            case "/": return value(w, n.a, who) / value(w, n.b, who);
            default: throw new IllegalStateException(n.op);
        }
    }

    private boolean holds(All w, Node n, int who) {
        switch (n.op) {
            case "or": return holds(w, n.a, who) || holds(w, n.b, who);
            case "and": return holds(w, n.a, who) && holds(w, n.b, who);
            case "not": return !holds(w, n.a, who);
            case "<": return value(w, n.a, who) < value(w, n.b, who);
            case "=": return value(w, n.a, who) == value(w, n.b, who);
            case ">": return value(w, n.a, who) > value(w, n.b, who);
            default: throw new IllegalStateException(n.op);
        }
    }

    private int tells(All w, String word, int who) {
        Person p = w.people.get(who);
        int v = word.equals("leaves") ? 80 * p.longs : word.equals("winds") ? p.weight : 500 - 50 * p.longs;
        for (LawLine line : w.law) {
            if (line.word.equals(word) && (line.when == null || holds(w, line.when, who))) {
                v = value(w, line.sum, who);
                break;
            }
        }
        int most = word.equals("winds") ? 999 : 1000;
        return v < 0 ? 0 : v > most ? most : v;
    }

    // ---- the texts

    private List<String> tokens;
    private List<Integer> places;
    private int at;

    private void cut(String s) {
        tokens = new ArrayList<>();
        places = new ArrayList<>();
        at = 0;
        int i = 0;
        while (i < s.length()) {
            char c = s.charAt(i);
            int j = i + 1;
            if (c == ' ' || c == '\n') {
                i = j;
                continue;
            }
            String kind = ("" + c).matches("[a-zA-Z]") ? "[a-zA-Z]" : ("" + c).matches("[0-9]") ? "[0-9]" : null;
            while (kind != null && j < s.length() && ("" + s.charAt(j)).matches(kind)) {
                j++;
            }
            tokens.add(s.substring(i, j));
            places.add(i);
            i = j;
        }
        tokens.add("");
        places.add(s.length());
    }

    private String peek() {
        return tokens.get(at);
    }

    private Fault bad(int kind) {
        return new Fault(kind, places.get(at));
    }

    private void take(String t) {
        if (!peek().equals(t)) {
            throw bad(1);
        }
        at++;
    }

    private int number(int least, int most) {
        if (!peek().matches("[0-9]{1,4}")) {
            throw bad(1);
        }
        int v = Integer.parseInt(peek());
        if (v < least || v > most) {
            throw bad(2);
        }
        at++;
        return v;
    }

    private String oneOf(String... words) {
        for (String w : words) {
            if (peek().equals(w)) {
                at++;
                return w;
            }
        }
        throw bad(1);
    }

    private void lineBegins(int n, String... words) {
        int before = at;
        oneOf(words);
        at = before;
        if (n == 16) {
            throw bad(3);
        }
    }

    private Node operand() {
        if (peek().matches("[0-9]{1,4}")) {
            return new Node("number", number(0, 9999), null, null);
        }
        return new Node(oneOf("weight", "long", "left", "here", "people", "wound", "time", "school", "kin", "day"),
                0, null, null);
    }

    private Node product() {
        Node n = operand();
        while (peek().equals("*") || peek().equals("/")) {
            String op = oneOf("*", "/");
            n = new Node(op, 0, n, op.equals("*") ? operand() : new Node("number", number(1, 9999), null, null));
        }
        return n;
    }

    private Node sum() {
        Node n = product();
        while (peek().equals("+") || peek().equals("-")) {
            n = new Node(oneOf("+", "-"), 0, n, product());
        }
        return n;
    }

    private Node single(int open) {
        if (peek().equals("not") || peek().equals("(")) {
            if (open == 8) {
                throw bad(3);
            }
            if (oneOf("not", "(").equals("not")) {
                return new Node("not", 0, single(open + 1), null);
            }
            Node n = or(open + 1);
            take(")");
            return n;
        }
        Node a = sum();
        String op = oneOf("<", "=", ">");
        return new Node(op, 0, a, sum());
    }

    private Node and(int open) {
        Node n = single(open);
        while (peek().equals("and")) {
            take("and");
            n = new Node("and", 0, n, single(open));
        }
        return n;
    }

    private Node or(int open) {
        Node n = and(open);
        while (peek().equals("or")) {
            take("or");
            n = new Node("or", 0, n, and(open));
        }
        return n;
    }

    private List<LawLine> readLaw() {
        List<LawLine> lines = new ArrayList<>();
        while (!peek().isEmpty()) {
            lineBegins(lines.size(), "leaves", "winds", "returns");
            String word = oneOf("leaves", "winds", "returns");
            Node sum = sum();
            Node when = null;
            if (peek().equals("when")) {
                take("when");
                when = or(0);
            }
            take(";");
            lines.add(new LawLine(word, sum, when));
        }
        return lines;
    }

    private List<DayLine> readBoats() {
        List<DayLine> lines = new ArrayList<>();
        while (!peek().isEmpty()) {
            lineBegins(lines.size(), "on");
            take("on");
            int day = number(0, 999);
            take("boat");
            int seats = number(1, 18);
            boolean out = oneOf("out", "back").equals("out");
            take(";");
            lines.add(new DayLine(day, "boat", seats, out));
        }
        return lines;
    }

    private List<DayLine> readTown() {
        List<DayLine> lines = new ArrayList<>();
        while (!peek().isEmpty()) {
            lineBegins(lines.size(), "on");
            take("on");
            int day = number(0, 999);
            String what = oneOf("beg", "free", "school", "holiday", "interest", "push");
            int n = 0;
            if (what.equals("beg") || what.equals("free")) {
                n = number(0, all.people.size() - 1);
            } else if (what.equals("interest")) {
                n = number(1, 99);
            } else if (what.equals("push")) {
                n = number(1, 719);
            }
            take(";");
            lines.add(new DayLine(day, what, n, false));
        }
        return lines;
    }

    private List<int[]> readKin() {
        List<int[]> lines = new ArrayList<>();
        while (!peek().isEmpty()) {
            lineBegins(lines.size(), "islander");
            take("islander");
            int a = number(0, all.people.size() - 1);
            take("kin");
            int before = at;
            int b = number(0, all.people.size() - 1);
            if (a == b) {
                at = before;
                throw bad(2);
            }
            take(";");
            lines.add(new int[] {a, b});
        }
        return lines;
    }

    // ---- days

    private void write(All w, int what, int who, int much) {
        if (w.book.size() < 150) {
            w.book.add(new int[] {w.day, what, who, much});
        }
    }

    private void aboard(All w, int i) {
        w.people.get(i).here = false;
        w.people.get(i).left++;
        int winds = tells(w, "winds", i);
        w.wound += winds;
        write(w, 0, i, winds);
    }

    private void back(All w, int i) {
        w.people.get(i).here = true;
        int winds = tells(w, "winds", i);
        w.wound -= winds;
        write(w, 1, i, winds);
    }

    private boolean willing(All w, String word, int i, boolean thought) {
        int chance = tells(w, word, i);
        if (thought) {
            return chance >= 500;
        }
        if (chance <= 0) {
            return false;
        }
        w.state = w.state * 1664525 + 1013904223;
        long high = ((long) w.state & 0xFFFFFFFFL) / 256;
        return high % 1000 < chance;
    }

    private void boat(All w, DayLine line, boolean thought) {
        int seats = line.number;
        for (int i = 0; i < w.people.size(); i++) {
            Person p = w.people.get(i);
            if (line.out && seats > 0 && p.here && !p.stays && willing(w, "leaves", i, thought)) {
                aboard(w, i);
                seats--;
                for (int k = 0; k < w.people.size(); k++) {
                    if (seats > 0 && areKin(w, i, k) && w.people.get(k).here) {
                        aboard(w, k);
                        seats--;
                    }
                }
            } else if (!line.out && seats > 0 && !p.here && willing(w, "returns", i, thought)) {
                back(w, i);
                seats--;
            }
        }
    }

    private void doing(All w, DayLine line) {
        switch (line.what) {
            case "beg": w.people.get(line.number).stays = true; break;
            case "free": w.people.get(line.number).stays = false; break;
            case "school": w.school = 1; break;
            case "holiday": w.school = 0; break;
            case "interest": w.due += line.number * (w.time / 60); break;
            default:
                for (int i = 0; i < line.number; i++) {
                    w.time++;
                    if (w.time == 720) {
                        w.time = 0;
                        w.turns++;
                    }
                }
        }
    }

    private void day(All w, boolean thought) {
        for (DayLine line : w.town) {
            if (line.day == w.day) {
                doing(w, line);
            }
        }
        for (DayLine line : w.boats) {
            if (line.day == w.day) {
                boat(w, line, thought);
            }
        }
        int strokes = 0;
        int ran = 0;
        int ranBack = 0;
        for (int minute = 0; minute < 1440 && w.wound != 0; minute++) {
            if (w.wound > 0) {
                w.wound--;
                ran++;
                w.time++;
                if (w.time == 720) {
                    w.time = 0;
                    w.turns++;
                }
                if (w.time % 60 == 0) {
                    strokes += w.time == 0 ? 12 : w.time / 60;
                }
            } else {
                w.wound++;
                ranBack++;
                w.time--;
                if (w.time < 0) {
                    w.time = 719;
                    w.turns--;
                }
            }
        }
        w.struck += strokes;
        if (strokes > 0) {
            write(w, 2, NONE, strokes);
        }
        if (ran + ranBack == 0) {
            write(w, 3, NONE, w.time);
        }
        if (ranBack > 0) {
            write(w, 4, NONE, ranBack);
        }
        w.day++;
    }

    private void keep() {
        undos.add(all.copy());
        if (undos.size() > 6) {
            undos.remove(0);
        }
    }

    // ---- the face

    int state(int v) {
        int was = all.state;
        all.state = v;
        undos.clear();
        return was;
    }

    int islander(int weight, int longs) {
        if (weight < 1 || weight > 200 || longs < 0 || longs > 9 || all.people.size() == 18) {
            return NONE;
        }
        Person p = new Person();
        p.weight = weight;
        p.longs = longs;
        all.people.add(p);
        undos.clear();
        return all.people.size() - 1;
    }

    boolean set(int what, int who, int v) {
        boolean known = who >= 0 && who < all.people.size();
        if (what == 0 && known && v >= 1 && v <= 200) {
            all.people.get(who).weight = v;
        } else if (what == 1 && known && v >= 0 && v <= 9) {
            all.people.get(who).longs = v;
        } else if (what == 2 && v >= 0 && v <= 719) {
            all.time = v;
        } else if (what == 3 && v >= -9999 && v <= 9999) {
            all.wound = v;
        } else if (what == 4 && v >= 0 && v <= 9999) {
            all.due = v;
        } else {
            return false;
        }
        undos.clear();
        return true;
    }

    boolean act(int what, int who) {
        if (who < 0 || who >= all.people.size()) {
            return false;
        }
        Person p = all.people.get(who);
        boolean can = what == 0 && p.here || what == 1 && !p.here || what == 2 && !p.stays || what == 3 && p.stays;
        if (!can) {
            return false;
        }
        keep();
        if (what == 0) {
            aboard(all, who);
        } else if (what == 1) {
            back(all, who);
        } else {
            p.stays = what == 2;
        }
        return true;
    }

    int days(int n) {
        if (n < 1 || n > 60 || all.day + n > 9999) {
            return NONE;
        }
        int before = all.struck;
        for (int i = 0; i < n; i++) {
            keep();
            day(all, false);
        }
        return all.struck - before;
    }

    int feed(int a, int b, int c, int d, int e) {
        if (tape.length() + 20 > 400) {
            return NONE;
        }
        for (int v : new int[] {a, b, c, d, e}) {
            tape.append((char) (v >>> 24)).append((char) (v >>> 16 & 255));
            tape.append((char) (v >>> 8 & 255)).append((char) (v & 255));
        }
        return tape.length();
    }

    boolean end(int n) {
        if (n < 0 || n > tape.length()) {
            return false;
        }
        tape.setLength(n);
        return true;
    }

    int text(int k) {
        String s = tape.toString();
        tape.setLength(0);
        fault = 0;
        place = NONE;
        if (k < 0 || k > 3) {
            return NONE;
        }
        cut(s);
        try {
            if (k == 0) {
                all.law = readLaw();
                return all.law.size();
            }
            if (k == 3) {
                all.kin = readKin();
                return all.kin.size();
            }
            List<DayLine> lines = k == 1 ? readBoats() : readTown();
            if (k == 1) {
                all.boats = lines;
            } else {
                all.town = lines;
            }
            undos.clear();
            return lines.size();
        } catch (Fault f) {
            fault = f.kind;
            place = f.place;
            return NONE;
        }
    }

    int fault(int what) {
        return what == 0 ? fault : what == 1 ? place : NONE;
    }

    int of(int i, int what) {
        if (i < 0 || i >= all.people.size()) {
            return NONE;
        }
        Person p = all.people.get(i);
        switch (what) {
            case 0: return p.weight;
            case 1: return p.longs;
            case 2: return p.here ? 1 : 0;
            case 3: return p.stays ? 1 : 0;
            case 4: return p.left;
            case 5: return tells(all, "leaves", i);
            case 6: return tells(all, "winds", i);
            case 7: return tells(all, "returns", i);
            case 8: {
                int set = 0;
                for (int j = 0; j < all.people.size(); j++) {
                    set += areKin(all, i, j) ? 1 << j : 0;
                }
                return set;
            }
            default: return NONE;
        }
    }

    int book(int i, int what) {
        return i < 0 || i >= all.book.size() || what < 0 || what > 3 ? NONE - 1 : all.book.get(i)[what];
    }

    int goes(int n, int what) {
        if (n < 1 || n > 60) {
            return NONE;
        }
        All w = all.copy();
        for (int i = 0; i < n; i++) {
            day(w, true);
        }
        int here = (int) w.people.stream().filter(p -> p.here).count();
        return what == 0 ? w.time : what == 1 ? here : what == 2 ? w.struck : what == 3 ? w.due : NONE;
    }

    int lonely() {
        All w = all.copy();
        for (int n = 0; n <= 60; n++) {
            if (w.people.stream().noneMatch(p -> p.here)) {
                return n;
            }
            day(w, true);
        }
        return NONE;
    }

    int must(int m, int what) {
        if (m < 0 || m > 9999 || what < 0 || what > 1) {
            return NONE;
        }
        int[] winds = new int[all.people.size()];
        int here = 0;
        for (int i = 0; i < winds.length; i++) {
            winds[i] = tells(all, "winds", i);
            here += all.people.get(i).here ? 1 << i : 0;
        }
        int best = NONE;
        for (int set = 0; set < 1 << winds.length; set++) {
            if ((set & ~here) != 0 || best != NONE && Integer.bitCount(set) >= Integer.bitCount(best)) {
                continue;
            }
            int sum = 0;
            for (int i = 0; i < winds.length; i++) {
                sum += (set >> i & 1) * winds[i];
            }
            if (sum == m) {
                best = set;
            }
        }
        return best == NONE ? NONE : what == 0 ? Integer.bitCount(best) : best;
    }

    int strokes(int from, int to) {
        if (from < 0 || from > 719 || to < 0 || to > 719) {
            return NONE;
        }
        int n = 0;
        for (int t = from; t != to;) {
            t = (t + 1) % 720;
            n += t % 60 != 0 ? 0 : t == 0 ? 12 : t / 60;
        }
        return n;
    }

    int hands(int v, int what) {
        if (what == 0 && v >= 0 && v <= 719) {
            int lesser = 0;
            int greater = 0;
            for (int i = 0; i < v; i++) {
                lesser = (lesser + 1) % 720;
                greater = (greater + 12) % 720;
            }
            int way = Math.abs(lesser - greater);
            return way > 360 ? 720 - way : way;
        }
        if (what == 1 && v >= 0 && v <= 360) {
            int n = 0;
            for (int t = 0; t < 720; t++) {
                n += hands(t, 0) == v ? 1 : 0;
            }
            return n;
        }
        return NONE;
    }

    int wheel(int teeth, boolean axle) {
        if (teeth == NONE) {
            all.wheels.clear();
            return 0;
        }
        if (teeth < 6 || teeth > 99 || all.wheels.size() == 5) {
            return NONE;
        }
        all.wheels.add(new int[] {teeth, axle ? 1 : 0});
        return all.wheels.size();
    }

    int wheels(int what) {
        if (what < 0 || what > 2) {
            return -10000000;
        }
        if (all.wheels.isEmpty()) {
            return 0;
        }
        java.math.BigInteger above = java.math.BigInteger.ONE;
        java.math.BigInteger below = java.math.BigInteger.ONE;
        java.math.BigInteger whole = java.math.BigInteger.ONE;
        for (int i = 1; i < all.wheels.size(); i++) {
            if (all.wheels.get(i)[1] == 0) {
                above = above.negate().multiply(java.math.BigInteger.valueOf(all.wheels.get(i - 1)[0]));
                below = below.multiply(java.math.BigInteger.valueOf(all.wheels.get(i)[0]));
            }
            java.math.BigInteger low = below.divide(above.gcd(below));
            whole = whole.multiply(low).divide(whole.gcd(low));
        }
        java.math.BigInteger g = above.gcd(below);
        return what == 0 ? above.divide(g).intValueExact() : what == 1 ? below.divide(g).intValueExact()
                : whole.intValueExact();
    }

    int couple(int a, int b) {
        if (a == NONE) {
            all.couples.clear();
            return 0;
        }
        if (a < 0 || a > 5 || b < 0 || b > 5 || a == b || all.couples.size() == 8) {
            return NONE;
        }
        all.couples.add(new int[] {a, b});
        return all.couples.size();
    }

    private boolean quarrel(Set<Integer> side) {
        for (int[] c : all.couples) {
            if (side.contains(c[0]) && side.contains(c[1])) {
                return true;
            }
        }
        return false;
    }

    private static Set<Integer> members(int set) {
        Set<Integer> s = new HashSet<>();
        for (int i = 0; i < 31; i++) {
            if ((set >> i & 1) == 1) {
                s.add(i);
            }
        }
        return s;
    }

    int ferry(int n, int b) {
        if (n < 1 || n > 6 || b < 1 || b > 3) {
            return NONE;
        }
        // Layer by layer: the sets of who is still on the first side, with the boat by turns here and there.
        Set<Integer> layer = new HashSet<>();
        layer.add((1 << n) - 1);
        for (int crossings = 0; crossings <= 200; crossings++) {
            if (layer.contains(0)) {
                return crossings;
            }
            Set<Integer> next = new HashSet<>();
            for (int first : layer) {
                int side = crossings % 2 == 0 ? first : (1 << n) - 1 - first;
                for (int load = 0; load < 1 << n; load++) {
                    if ((load & side) == load && members(load).size() <= b && !quarrel(members(side - load))) {
                        next.add(crossings % 2 == 0 ? first - load : first + load);
                    }
                }
            }
            layer = next;
        }
        return NONE;
    }

    int glasses(int a, int b, int t) {
        if (a < 1 || a > 30 || b < 1 || b > 30 || t < 1 || t > 120) {
            return NONE;
        }
        Map<Integer, Integer> states = new HashMap<>();
        states.put(a * 100 + b, 0);
        int best = NONE;
        for (int minute = 1; minute <= t; minute++) {
            Map<Integer, Integer> next = new HashMap<>();
            best = NONE;
            for (Map.Entry<Integer, Integer> e : states.entrySet()) {
                int x = e.getKey() / 100;
                int y = e.getKey() % 100;
                int nx = Math.max(0, x - 1);
                int ny = Math.max(0, y - 1);
                boolean out = x == 1 || y == 1;
                if (out && (best == NONE || e.getValue() < best)) {
                    best = e.getValue();
                }
                for (int turned = 0; turned < (out ? 4 : 1); turned++) {
                    int tx = turned % 2 == 1 ? a - nx : nx;
                    int ty = turned / 2 == 1 ? b - ny : ny;
                    next.merge(tx * 100 + ty, e.getValue() + Integer.bitCount(turned), Math::min);
                }
            }
            states = next;
        }
        return best;
    }

    int seat(int weight) {
        if (weight == NONE) {
            all.seats.clear();
            return 0;
        }
        if (weight < 1 || weight > 99 || all.seats.size() == 7) {
            return NONE;
        }
        all.seats.add(weight);
        return all.seats.size();
    }

    int level() {
        int n = all.seats.size();
        int ways = 0;
        int rows = 1;
        for (int i = 0; i < n; i++) {
            rows *= 7;
        }
        for (int row = 0; row < rows; row++) {
            int used = 0;
            int sum = 0;
            int rest = row;
            for (int i = 0; i < n; i++) {
                used |= 1 << rest % 7;
                sum += all.seats.get(i) * (rest % 7 - 3);
                rest /= 7;
            }
            ways += sum == 0 && Integer.bitCount(used) == n ? 1 : 0;
        }
        return ways;
    }

    int part(int a, int b, int what) {
        if (a < 1 || a > 9999 || b < 1 || b > 9999) {
            return NONE;
        }
        List<Integer> q = new ArrayList<>();
        int x = a;
        int y = b;
        while (y > 0) {
            q.add(x / y);
            int rest = x - x / y * y;
            x = y;
            y = rest;
        }
        if (what == 0) {
            return q.size();
        }
        int i = what % 100;
        if (what < 100 || what > 399 || i >= q.size()) {
            return NONE;
        }
        long above = q.get(i);
        long below = 1;
        for (int j = i - 1; j >= 0; j--) {
            long turned = below;
            below = above;
            above = q.get(j) * below + turned;
        }
        return what < 200 ? q.get(i) : what < 300 ? (int) above : (int) below;
    }

    int bells(int n, int k, int p) {
        if (n < 3 || n > 8 || k < 0 || k > 1000000 || p < NONE || p >= n) {
            return NONE;
        }
        List<Integer> order = new ArrayList<>();
        for (int i = 0; i < n; i++) {
            order.add(i);
        }
        List<Integer> first = new ArrayList<>(order);
        for (int c = 0; p == NONE || c < k; c++) {
            for (int i = c % 2; i + 1 < n; i += 2) {
                order.set(i, order.set(i + 1, order.get(i)));
            }
            if (p == NONE && order.equals(first)) {
                return c + 1;
            }
        }
        return order.get(p);
    }

    int against(int n, int r, int i) {
        if (n < 2 || n > 16 || r < 0 || r > 999 || i < 0 || i >= n) {
            return NONE;
        }
        int players = n % 2 == 1 ? n + 1 : n;
        int last = players - 1;
        int[] meets = new int[players];
        for (int x = 0; x < last; x++) {
            for (int j = 0; j < last; j++) {
                if ((x + j) % last == r % last) {
                    meets[x] = x == j ? last : j;
                    if (x == j) {
                        meets[last] = x;
                    }
                }
            }
        }
        return meets[i] >= n ? NONE : meets[i];
    }

    int calendar(int ab, int y, int what) {
        int a = ab / 1000;
        int b = ab % 1000;
        if (ab < 0 || b < 1 || b > 400 || a >= b || y < 0 || y > 9999 || what < 0 || what > 1) {
            return NONE;
        }
        int together = 0;
        int days = 0;
        boolean put = false;
        for (int year = 1; year <= y; year++) {
            together += a;
            put = together >= b;
            if (put) {
                together -= b;
                days++;
            }
        }
        return what == 0 ? days : put ? 1 : 0;
    }

    int rope(int n, int k, int what) {
        if (n < 0 || n > 20 || k < 1 || k > 9 || what < 0 || what > 1) {
            return NONE;
        }
        // Along the rope: each layer has its cuts, and a fold stands between two layers.
        int pieces = 0;
        int folded = 0;
        boolean fold = false;
        for (int layer = 0; layer < 1 << n; layer++) {
            for (int cut = 0; cut < k; cut++) {
                pieces++;
                folded += fold ? 1 : 0;
                fold = false;
            }
            fold = layer + 1 < 1 << n;
        }
        return what == 0 ? pieces + 1 : folded;
    }

    int meets(int s, int p, int t, int q) {
        if (s < 0 || s > 499 || t < 0 || t > 499 || p < 1 || p > 500 || q < 1 || q > 500) {
            return NONE;
        }
        for (int minute = Math.max(s, t); minute < 500 + p * q; minute++) {
            if ((minute - s) % p == 0 && (minute - t) % q == 0) {
                return minute;
            }
        }
        return NONE;
    }

    int arm(int far, int weight) {
        if (far == -100) {
            all.arms.clear();
            return 0;
        }
        if (far < -9 || far > 9 || far == 0 || weight < 1 || weight > 20 || all.arms.size() == 6) {
            return NONE;
        }
        all.arms.add(new int[] {far, weight});
        return all.arms.size();
    }

    int hung(int what) {
        if (what < 0 || what > 1) {
            return NONE;
        }
        int n = all.arms.size();
        int best = Integer.MAX_VALUE;
        int bestRow = 0;
        int rows = 1;
        for (int i = 0; i < n; i++) {
            rows *= 10;
        }
        for (int row = 0; row < rows; row++) {
            String digits = String.format("%06d", row).substring(6 - n);
            int used = 0;
            int sum = 0;
            for (int i = 0; i < n; i++) {
                int arm = digits.charAt(i) - '0';
                if (arm >= n) {
                    used = 0;
                    break;
                }
                used |= 1 << arm;
                sum += all.arms.get(i)[1] * all.arms.get(arm)[0];
            }
            if (Integer.bitCount(used) == n && Math.abs(sum) < best) {
                best = Math.abs(sum);
                bestRow = row;
            }
        }
        return what == 0 ? best : bestRow;
    }

    int game(int n, int set, int h, int what) {
        if (n < 2 || n > 60 || set < 0 || set > 1023 || h < 0 || h >= n || what < 0 || what > 1) {
            return -10;
        }
        if (set == 0) {
            return what == 0 ? 0 : NONE;
        }
        // What is won or lost within so many moves, for more and more moves.
        int[] worth = new int[n];
        for (int moves = 0; moves < 2 * n + 2; moves++) {
            int[] next = new int[n];
            for (int from = 0; from < n; from++) {
                int best = -1;
                for (int step = 1; step <= 10; step++) {
                    if ((set & 1 << step - 1) != 0) {
                        int to = (from + step) % n;
                        best = Math.max(best, to == 0 ? 1 : -worth[to]);
                    }
                }
                next[from] = best;
            }
            worth = next;
        }
        for (int step = 1; step <= 10; step++) {
            int to = (h + step) % n;
            if ((set & 1 << step - 1) != 0 && (to == 0 ? 1 : -worth[to]) == worth[h]) {
                return what == 0 ? worth[h] : step;
            }
        }
        return -77;
    }

    boolean undo() {
        if (undos.isEmpty()) {
            return false;
        }
        All was = undos.remove(undos.size() - 1);
        was.law = all.law;
        was.kin = all.kin;
        was.wheels = all.wheels;
        was.couples = all.couples;
        was.seats = all.seats;
        was.arms = all.arms;
        all = was;
        return true;
    }

    boolean image(boolean taken) {
        if (taken) {
            image = all.copy();
            return true;
        }
        if (image == null) {
            return false;
        }
        all = image.copy();
        undos.clear();
        return true;
    }

    int look(int what) {
        int here = 0;
        for (int i = 0; i < all.people.size(); i++) {
            here += all.people.get(i).here ? 1 << i : 0;
        }
        int[] answers = {all.people.size(), here, all.time, all.wound, all.struck, all.turns, all.school, all.due,
            all.day, all.book.size(), all.state, all.law.size(), all.boats.size(), all.town.size(), all.kin.size(),
            undos.size()};
        return what < 0 || what >= answers.length ? -100000 : answers[what];
    }
}
