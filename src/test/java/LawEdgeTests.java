/**
 * What the law tells (the end of part 2, and promise 11): each sentence that names a bound, on either side of it.
 * The sentence stands as the name of its test.
 */
final class LawEdgeTests extends Bench {
    public static void main(String[] args) {
        heldWithin();
        withoutALine();
        firstLineThatIsSo();
        intsWrap();
        partGoesTowardsZero();
        woundIsHeld();
        weightLongLeft();
        hereAndPeople();
        timeSchoolDay();
        kinNotAsHeIs();
        ordersOfJoining();
        comparisons();
        ofNobody();
        ofAnotherWhat();
        finish("LawEdgeTests");
    }

    private static void leaves(int want, RopeClock x, String sum) {
        due(1, tell(x, 0, "leaves " + sum + ";"));
        due(want, x.of(0, 5));
    }

    private static void so(boolean want, RopeClock x, String when) {
        due(2, tell(x, 0, "winds 1 when " + when + ";winds 0;"));
        due(want ? 1 : 0, x.of(0, 6));
    }

    private static void heldWithin() {
        promise = "leaves, returns held to 0 .. 1000, winds to 0 .. 999";
        String[] words = {"leaves", "winds", "returns"};
        for (int word = 0; word < 3; word++) {
            int most = word == 1 ? 999 : 1000;
            for (int v : new int[] {-9999, -2, -1, 0, 1, 2, 998, 999, 1000, 1001, 9999}) {
                RopeClock x = town(1);
                due(1, tell(x, 0, words[word] + (v < 0 ? " 0-" + -v : " " + v) + ";"));
                due(Math.max(0, Math.min(most, v)), x.of(0, 5 + word));
            }
        }
        // Held but at the end: within a sum or a condition it is as it comes.
        RopeClock x = town(1);
        leaves(500, x, "1500-1000");
        leaves(500, x, "0-1500+2000");
        so(true, x, "0-1500<0-1000");
        so(true, x, "1500>1000");
    }

    private static void withoutALine() {
        promise = "none: leaves: 80 times long, winds: weight, returns: 500 less 50 times long";
        for (int longs = 0; longs <= 9; longs++) {
            RopeClock x = with(1, longs, 200, longs);
            due(80 * longs, x.of(0, 5));
            due(1, x.of(0, 6));
            due(200, x.of(1, 6));
            due(500 - 50 * longs, x.of(0, 7));
            // None, too, where there are lines but of other words, or whose conditions are not so.
            tell(x, 0, "winds 3;");
            due(80 * longs, x.of(0, 5));
            due(500 - 50 * longs, x.of(0, 7));
            tell(x, 0, "leaves 3 when 1=2;winds 4 when 1=2;returns 5 when 1=2;");
            due(80 * longs, x.of(0, 5));
            due(200, x.of(1, 6));
            due(500 - 50 * longs, x.of(0, 7));
        }
    }

    private static void firstLineThatIsSo() {
        promise = "E of the first line with that word whose B is so, or that has none";
        RopeClock x = with(1, 0, 2, 0, 3, 0);
        tell(x, 0, "leaves 11 when weight=1;winds 21;leaves 12 when weight<3;leaves 13;leaves 14;winds 22;");
        due(11, x.of(0, 5));
        due(12, x.of(1, 5));
        due(13, x.of(2, 5));
        due(21, x.of(0, 6));
        due(500, x.of(0, 7));
        tell(x, 0, "leaves 13;leaves 11 when weight=1;");
        due(13, x.of(0, 5));
    }

    private static void intsWrap() {
        promise = "Ints, which wrap";
        RopeClock x = town(1);
        so(false, x, "8192*8192*32-1<0");
        so(true, x, "8192*8192*32-1>0");
        so(true, x, "8192*8192*32<0");
        so(true, x, "8192*8192*32-1+1<0");
        so(true, x, "0-8192*8192*32<0");
        so(true, x, "8192*8192*32+8192*8192*32=0");
        so(true, x, "8192*8192*64=0");
        so(true, x, "8192*8192*64+1=1");
        so(true, x, "9999*9999*21>0");
        so(true, x, "9999*9999*22<0");
        so(true, x, "9999*9999*43=9999*9999*43");
        leaves(1000, x, "8192*8192*32-1");
        leaves(0, x, "8192*8192*32");
        leaves(0, x, "8192*8192*64");
        leaves(5, x, "8192*8192*64+5");
    }

    private static void partGoesTowardsZero() {
        promise = "/ goes towards 0";
        RopeClock x = town(1);
        int[][] rows = {{-1, 2, 0}, {-2, 2, -1}, {-3, 2, -1}, {-7, 2, -3}, {-9999, 9999, -1}, {-9998, 9999, 0}, {7, 2, 3},
            {1, 2, 0}, {2, 2, 1}, {9999, 9999, 1}, {9998, 9999, 0}, {-7, 1, -7}, {0, 1, 0}};
        for (int[] r : rows) {
            x.set(3, 0, r[0]);
            leaves(500 + r[2], x, "wound/" + r[1] + " + 500");
        }
        // The least int by 1, by 9999 (214769 and a part) and by 2.
        so(true, x, "8192*8192*32/1=8192*8192*32");
        so(true, x, "8192*8192*32/9999+9999*21+4790=0");
        so(true, x, "8192*8192*32/2=0-8192*8192*16");
        // From the left, part by part.
        leaves(2, x, "7/2/1-1");
        leaves(6, x, "7/2*2");
        leaves(7, x, "7*2/2");
        leaves(9, x, "2*7/3*2+1");
    }

    private static void woundIsHeld() {
        promise = "wound: WOUND held to -9999 .. 9999";
        for (int wound : new int[] {9998, 9999, -9998, -9999}) {
            RopeClock x = town(1);
            x.set(3, 0, wound);
            leaves(500, x, wound > 0 ? "wound-" + (wound - 500) : "wound+9999+" + (500 - wound - 9999));
        }
        // One more, or less, by hand: WOUND is as it is, the word is held.
        RopeClock x = town(1);
        tell(x, 0, "winds 1;");
        x.set(3, 0, 9999);
        x.act(0, 0);
        due(10000, x.look(3));
        leaves(500, x, "wound-9499");
        so(true, x, "wound=9999");
        RopeClock y = town(1);
        tell(y, 0, "winds 1;");
        y.act(0, 0);
        y.set(3, 0, -9999);
        y.act(1, 0);
        due(-10000, y.look(3));
        leaves(500, y, "wound+9999+500");
        so(true, y, "wound=0-9999");
    }

    private static void weightLongLeft() {
        promise = "weight, long, left: his";
        RopeClock x = with(1, 0, 200, 9);
        tell(x, 0, "leaves weight;winds long*10;returns left;");
        int[][] rows = {{1, 0, 0}, {200, 90, 0}};
        for (int i = 0; i < 2; i++) {
            for (int word = 0; word < 3; word++) {
                due(rows[i][word], x.of(i, 5 + word));
            }
        }
        for (int n = 0; n < 5; n++) {
            x.act(0, 1);
            due(n + 1, x.of(1, 7));
            x.act(1, 1);
            due(n + 1, x.of(1, 7));
        }
        due(0, x.of(0, 7));
        due(5, x.of(1, 4));
    }

    private static void hereAndPeople() {
        promise = "here: how many are HERE; people: how many there are";
        RopeClock x = town(18);
        leaves(18, x, "here");
        leaves(18, x, "people");
        for (int i = 0; i < 18; i++) {
            x.act(0, i);
        }
        leaves(0, x, "here");
        leaves(18, x, "people");
        x.act(1, 17);
        leaves(1, x, "here");
        RopeClock y = town(1);
        leaves(1, y, "here*100-99");
        leaves(1, y, "people");
    }

    private static void timeSchoolDay() {
        promise = "time; school; day";
        RopeClock x = town(1);
        leaves(0, x, "time");
        leaves(1, x, "school");
        leaves(0, x, "day");
        x.set(2, 0, 719);
        leaves(719, x, "time");
        tell(x, 2, "on 1 holiday;");
        x.days(1);
        leaves(1, x, "school");
        leaves(1, x, "day");
        x.days(1);
        leaves(0, x, "school");
        leaves(2, x, "day");
        // The law asked on a day sees that day, and what the town did before.
        RopeClock y = town(1);
        tell(y, 0, "leaves 1000 when day=3 and school=0 and time=5;leaves 0;");
        tell(y, 1, "on 2 boat 1 out;on 3 boat 1 out;on 4 boat 1 out;");
        tell(y, 2, "on 3 holiday;on 3 push 5;");
        y.days(3);
        due(1, y.look(1));
        y.days(1);
        due(0, y.look(1));
        // Up to the last of days.
        RopeClock z = town(1);
        for (int i = 0; i < 166; i++) {
            z.days(60);
        }
        z.days(39);
        leaves(999, z, "day-9000");
        so(true, z, "day=9999");
    }

    private static void kinNotAsHeIs() {
        promise = "kin: how many of his kin are not as he is (HERE or not)";
        RopeClock x = town(18);
        StringBuilder s = new StringBuilder();
        for (int i = 1; i <= 16; i++) {
            s.append("islander 0 kin ").append(i).append(';');
        }
        tell(x, 3, s.toString());
        tell(x, 0, "leaves kin;");
        due(0, x.of(0, 5));
        for (int i = 1; i <= 16; i++) {
            x.act(0, i);
            due(i, x.of(0, 5));
            due(1, x.of(i, 5));
        }
        x.act(0, 17);
        due(16, x.of(0, 5));
        due(0, x.of(17, 5));
        x.act(0, 0);
        due(0, x.of(0, 5));
        due(0, x.of(1, 5));
        x.act(1, 1);
        due(1, x.of(0, 5));
        due(1, x.of(1, 5));
        // The same two told twice are kin once.
        RopeClock y = town(2);
        tell(y, 3, "islander 0 kin 1;islander 1 kin 0;");
        tell(y, 0, "leaves kin;");
        y.act(0, 1);
        due(1, y.of(0, 5));
    }

    private static void ordersOfJoining() {
        promise = "B = A {or A}. A = C {and C}.";
        RopeClock x = town(1);
        // All ways of p or q and r, p and q or r, not p and q, with p, q, r so or not.
        for (int way = 0; way < 8; way++) {
            boolean p = (way & 1) == 1;
            boolean q = (way & 2) == 2;
            boolean r = (way & 4) == 4;
            String ps = p ? "1=1" : "1=2";
            String qs = q ? "2>1" : "2<1";
            String rs = r ? "1<2" : "1>2";
            RopeClock y = town(1);
            so(p || q && r, y, ps + " or " + qs + " and " + rs);
            so(p && q || r, y, ps + " and " + qs + " or " + rs);
            so((p || q) && r, y, "(" + ps + " or " + qs + ") and " + rs);
            so(p && (q || r), y, ps + " and (" + qs + " or " + rs + ")");
            so(!p && q || r, y, "not " + ps + " and " + qs + " or " + rs);
            so(!(p && q) || r, y, "not (" + ps + " and " + qs + ") or " + rs);
            so(!(p || q || r), y, "not (" + ps + " or " + qs + " or " + rs + ")");
            so(p || !(!q && !r), y, ps + " or not (not " + qs + " and not " + rs + ")");
        }
        leaves(7, x, "1+2*3");
        leaves(5, x, "9-3-1");
        leaves(7, x, "9-3+1");
        leaves(1, x, "9-2*4");
        leaves(23, x, "1*2+3*7");
    }

    private static void comparisons() {
        promise = "C = E (< | = | >) E";
        RopeClock x = town(1);
        for (int d = -1; d <= 1; d++) {
            so(d < 0, x, (5 + d) + "<5");
            so(d == 0, x, (5 + d) + "=5");
            so(d > 0, x, (5 + d) + ">5");
        }
        so(true, x, "0-1<0");
        so(false, x, "0-1>0");
        so(true, x, "0-1-1<0-1");
    }

    private static void ofNobody() {
        promise = "of: NONE if there is none such";
        for (int what = 0; what < 9; what++) {
            int asked = what;
            due(-1, new RopeClock().of(0, what));
            bounds(0, 0, -1, i -> town(1).of(i, asked));
            bounds(0, 17, -1, i -> town(18).of(i, asked));
        }
    }

    private static void ofAnotherWhat() {
        promise = "of: NONE if another what";
        bounds(0, 8, -1, what -> town(1).of(0, what));
        bounds(0, 8, -1, what -> town(18).of(17, what));
    }
}
