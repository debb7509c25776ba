/**
 * Part 2 of the terms and the promises 9 and 10: each sentence about the texts that names a bound, on either side
 * of it. The sentence stands as the name of its test.
 */
final class TextEdgeTests extends Bench {
    /** A good line of each text, for an island of two at least. */
    private static final String[] LINE = {"leaves 1;", "on 0 boat 1 out;", "on 0 school;", "islander 0 kin 1;"};

    public static void main(String[] args) {
        emptyTexts();
        sixteenLines();
        seventeenthLine();
        noSuchText();
        faultOfTheLatest();
        faultAnotherWhat();
        textStaysAsItWas();
        dayOfALine();
        seats();
        interestAndPush();
        islanderThatThereIs();
        islandersUnlike();
        kinEitherWay();
        numbersOfFourDigits();
        everyByteBehindANumber();
        everyByteBehindAWord();
        blanksBetween();
        keywordsOfThatText();
        theEnd();
        partByZero();
        eightOpen();
        ninthOpen();
        firstByItsPlace();
        grammarOfTheLaw();
        fullTape();
        finish("TextEdgeTests");
    }

    private static void taken(int lines, RopeClock x, int k, String s) {
        due(lines, tell(x, k, s));
        due(0, x.fault(0));
        due(-1, x.fault(1));
        due(lines, x.look(11 + k));
        due(false, x.end(1));
    }

    private static void emptyTexts() {
        promise = "TEXTS (empty at first)";
        for (int k = 0; k < 4; k++) {
            RopeClock x = town(2);
            due(0, x.look(11 + k));
            taken(0, x, k, "");
            taken(1, x, k, LINE[k]);
            taken(0, x, k, "");
            taken(1, x, k, LINE[k]);
            taken(0, x, k, " \n\n ");
            taken(0, x, k, times(400, " "));
            faulty(x, k, ";", 1, 0);
        }
    }

    private static void sixteenLines() {
        promise = "16 lines of each at most";
        for (int k = 0; k < 4; k++) {
            for (int lines : new int[] {1, 15, 16}) {
                taken(lines, town(2), k, times(lines, LINE[k]));
                taken(lines, town(2), k, times(lines, LINE[k]) + "\n ");
            }
        }
        // The sixteenth line holds, too.
        RopeClock x = town(18);
        tell(x, 0, times(15, "winds 5 when 1=2;") + "winds 7;");
        due(7, x.of(0, 6));
        StringBuilder kin = new StringBuilder();
        for (int i = 1; i <= 16; i++) {
            kin.append("islander 0 kin ").append(i).append(';');
        }
        taken(16, x, 3, kin.toString());
        due((1 << 17) - 2, x.of(0, 8));
        taken(16, x, 2, times(15, "on 0 school;") + "on 0 holiday;");
        taken(16, x, 1, times(15, "on 1 boat 1 out;") + "on 0 boat 1 out;");
        tell(x, 0, "leaves 1000;");
        tell(x, 3, "");
        x.days(1);
        due(0, x.look(6));
        due((1 << 18) - 2, x.look(1));
    }

    private static void seventeenthLine() {
        promise = "3 (at its KEYWORD) the 17th line of a text";
        for (int k = 0; k < 4; k++) {
            String sixteen = times(16, LINE[k]);
            int at = sixteen.length();
            String first = LINE[k].substring(0, LINE[k].indexOf(' '));
            faulty(town(2), k, sixteen + LINE[k], 3, at);
            faulty(town(2), k, sixteen + "\n  " + LINE[k], 3, at + 3);
            faulty(town(2), k, sixteen + first, 3, at);
            faulty(town(2), k, sixteen + first + "?", 3, at);
            // What can't stand there is the lesser fault, and another line's keyword can't.
            faulty(town(2), k, sixteen + first + "x", 1, at);
            faulty(town(2), k, sixteen + ";", 1, at);
            faulty(town(2), k, sixteen + "7", 1, at);
            faulty(town(2), k, sixteen + (k == 0 ? "when" : k == 1 ? "boat" : k == 2 ? "push" : "kin"), 1, at);
            // A fault before it is the first one.
            faulty(town(2), k, times(15, LINE[k]) + first + " ;" + LINE[k], 1, at - LINE[k].length() + first.length() + 1);
        }
        for (String word : new String[] {"leaves", "winds", "returns"}) {
            faulty(town(2), 0, times(16, "winds 1;") + word, 3, 128);
        }
    }

    private static void noSuchText() {
        promise = "text: NONE: no such one (fault() tells 0)";
        for (int k : new int[] {-1, 4, Integer.MIN_VALUE, Integer.MAX_VALUE}) {
            RopeClock x = town(2);
            faulty(x, 0, "winds", 1, 5);
            put(x, "winds 1;");
            due(-1, x.text(k));
            due(0, x.fault(0));
            due(-1, x.fault(1));
            for (int text = 0; text < 4; text++) {
                due(0, x.look(11 + text));
            }
            due(false, x.end(1));
        }
        for (int k = 0; k < 4; k++) {
            taken(1, town(2), k, LINE[k]);
        }
    }

    private static void faultOfTheLatest() {
        promise = "fault: of the latest text() the FAULT (0 without one), its place (NONE)";
        RopeClock x = town(2);
        due(0, x.fault(0));
        due(-1, x.fault(1));
        faulty(x, 1, "on 0 boat 19 out;", 2, 10);
        // Nothing but text() changes it.
        x.feed(0, 0, 0, 0, 0);
        x.end(0);
        x.act(2, 0);
        x.undo();
        x.image(true);
        x.days(1);
        x.image(false);
        due(2, x.fault(0));
        due(10, x.fault(1));
        faulty(x, 0, times(17, "leaves 1;"), 3, 144);
        faulty(x, 2, "?", 1, 0);
        taken(0, x, 3, "");
        due(0, x.fault(0));
        due(-1, x.fault(1));
    }

    private static void faultAnotherWhat() {
        promise = "fault: NONE for another what";
        RopeClock x = town(2);
        faulty(x, 0, "winds", 1, 5);
        bounds(0, 1, -1, what -> x.fault(what));
        due(1, x.fault(0));
        due(5, x.fault(1));
    }

    private static void textStaysAsItWas() {
        promise = "a FAULT (it stays as it was)";
        RopeClock x = town(2);
        tell(x, 0, "leaves 1000;winds 7;");
        tell(x, 1, "on 0 boat 1 out;");
        tell(x, 2, "on 0 holiday;");
        tell(x, 3, "islander 0 kin 1;");
        // Each has good lines first, which must not take the place of those that hold.
        faulty(x, 0, "leaves 0;winds 9;winds", 1, 22);
        faulty(x, 1, "on 0 boat 2 out;on 1 boat 2 back;on", 1, 35);
        faulty(x, 2, "on 0 push 9;on 0 push 720;", 2, 22);
        faulty(x, 3, "islander 1 kin 0;islander 1 kin 1;", 2, 32);
        due(2, x.look(11));
        due(1, x.look(12));
        due(1, x.look(13));
        due(1, x.look(14));
        due(2, x.of(0, 8));
        due(7, x.of(0, 6));
        x.days(1);
        due(0b10, x.look(1));
        due(7, x.look(2));
        due(0, x.look(6));
    }

    private static void dayOfALine() {
        promise = "DAY 0 .. 999; 2 (at the NUMBER) one beyond its bounds";
        for (String day : new String[] {"0", "1", "998", "999", "0999", "0000"}) {
            taken(1, town(2), 1, "on " + day + " boat 1 back;");
            taken(1, town(2), 2, "on " + day + " holiday;");
        }
        for (String day : new String[] {"1000", "1001", "9999"}) {
            faulty(town(2), 1, "on " + day + " boat 1 back;", 2, 3);
            faulty(town(2), 2, "on " + day + " holiday;", 2, 3);
            faulty(town(2), 1, LINE[1] + "on\n" + day, 2, 19);
        }
    }

    private static void seats() {
        promise = "N 1 .. 18 seats";
        for (String n : new String[] {"1", "2", "17", "18", "0018"}) {
            taken(1, town(2), 1, "on 7 boat " + n + " out;");
            taken(1, town(2), 1, "on 7 boat " + n + " back;");
        }
        for (String n : new String[] {"0", "0000", "19", "9999"}) {
            faulty(town(2), 1, "on 7 boat " + n + " out;", 2, 10);
            faulty(town(2), 1, "on 7 boat " + n, 2, 10);
        }
    }

    private static void interestAndPush() {
        promise = "interest 1 .. 99; push 1 .. 719 minutes";
        for (String n : new String[] {"1", "2", "98", "99", "0099"}) {
            taken(1, town(2), 2, "on 7 interest " + n + ";");
        }
        for (String n : new String[] {"0", "000", "100", "9999"}) {
            faulty(town(2), 2, "on 7 interest " + n + ";", 2, 14);
        }
        for (String n : new String[] {"1", "2", "100", "718", "719", "0719"}) {
            taken(1, town(2), 2, "on 7 push " + n + ";");
        }
        for (String n : new String[] {"0", "000", "720", "9999"}) {
            faulty(town(2), 2, "on 7 push " + n + ";", 2, 10);
        }
    }

    private static void islanderThatThereIs() {
        promise = "2 (at the NUMBER) an ISLANDER that there is not";
        for (int people : new int[] {0, 1, 2, 17, 18}) {
            int last = people - 1;
            if (people > 0) {
                taken(1, town(people), 2, "on 0 beg 0;");
                taken(1, town(people), 2, "on 0 beg " + last + ";");
                taken(1, town(people), 2, "on 0 free " + last + ";");
            }
            faulty(town(people), 2, "on 0 beg " + people + ";", 2, 9);
            faulty(town(people), 2, "on 0 free " + people + ";", 2, 10);
            faulty(town(people), 2, "on 0 beg 9999;", 2, 9);
            if (people > 1) {
                taken(1, town(people), 3, "islander 0 kin " + last + ";");
                taken(1, town(people), 3, "islander " + last + " kin 0;");
                faulty(town(people), 3, "islander 0 kin " + people + ";", 2, 15);
                faulty(town(people), 3, "islander 0 kin 9999;", 2, 15);
            }
            faulty(town(people), 3, "islander " + people + " kin 0;", 2, 9);
            faulty(town(people), 3, "islander 9999 kin 9999;", 2, 9);
        }
        // One who comes later can be named then.
        RopeClock x = town(1);
        faulty(x, 3, LINE[3], 2, 15);
        x.islander(1, 1);
        taken(1, x, 3, LINE[3]);
    }

    private static void islandersUnlike() {
        promise = "2 (at the NUMBER) the same ISLANDER again (of KIN)";
        faulty(town(18), 3, "islander 0 kin 0;", 2, 15);
        faulty(town(18), 3, "islander 17 kin 17;", 2, 16);
        faulty(town(18), 3, "islander 17 kin 0017;", 2, 16);
        faulty(town(18), 3, "islander 0017 kin 17", 2, 18);
        faulty(town(1), 3, "islander 0 kin 0;", 2, 15);
        taken(1, town(18), 3, "islander 17 kin 16;");
        // Of another line he may be told again, with the same one, too.
        taken(3, town(18), 3, "islander 0 kin 1;islander 1 kin 0;islander 0 kin 1;");
    }

    private static void kinEitherWay() {
        promise = "KIN (either way)";
        RopeClock x = town(18);
        tell(x, 3, "islander 17 kin 0;islander 3 kin 17;");
        due(1 << 17, x.of(0, 8));
        due(1 << 17, x.of(3, 8));
        due(0b1001, x.of(17, 8));
        due(0, x.of(1, 8));
    }

    private static void numbersOfFourDigits() {
        promise = "digits as many as stand together NUMBERS of 1 to 4 digits or none";
        for (String n : new String[] {"0", "9", "00", "99", "999", "0000", "9999"}) {
            RopeClock x = town(2);
            taken(1, x, 0, "leaves " + n + ";");
            due(Math.min(1000, Integer.parseInt(n)), x.of(0, 5));
            taken(1, x, 0, "leaves 1 when wound<" + n + " or wound=" + n + ";");
        }
        for (String n : new String[] {"00000", "10000", "99999", "000001", "12345678901"}) {
            faulty(town(2), 0, "leaves " + n + ";", 1, 7);
            faulty(town(2), 0, "leaves 5/" + n + ";", 1, 9);
            faulty(town(2), 0, "leaves 1 when 1=" + n + ";", 1, 16);
            faulty(town(2), 1, "on " + n + " boat 1 out;", 1, 3);
            faulty(town(2), 1, "on 1 boat " + n + " out;", 1, 10);
            faulty(town(2), 2, "on 1 push " + n + ";", 1, 10);
            faulty(town(2), 2, "on 1 beg " + n + ";", 1, 9);
            faulty(town(2), 3, "islander " + n + " kin 1;", 1, 9);
            faulty(town(2), 3, "islander 0 kin " + n + ";", 1, 15);
        }
        faulty(town(2), 0, "leaves 1 2;", 1, 9);
    }

    private static boolean isLetter(int b) {
        return b >= 'a' && b <= 'z' || b >= 'A' && b <= 'Z';
    }

    private static void everyByteBehindANumber() {
        promise = "TOKENS: letters, digits, ; + - * / ( ) < = > . Blanks (32, 10) between";
        for (int b = 0; b < 256; b++) {
            RopeClock x = town(2);
            String s = "winds 7" + (char) b + ";";
            boolean digit = b >= '0' && b <= '9';
            if (b == 32 || b == 10 || digit) {
                taken(1, x, 0, s);
                due(digit ? 70 + b - '0' : 7, x.of(0, 6));
            } else {
                // A sign that may follow leaves the ; behind it without what it joins.
                faulty(x, 0, s, 1, ";+-*/".indexOf(b) >= 0 ? 8 : 7);
            }
        }
    }

    private static void everyByteBehindAWord() {
        promise = "letters as many as stand together are KEYWORDS or none";
        for (int b = 0; b < 256; b++) {
            RopeClock x = town(2);
            String s = "winds" + (char) b + "7;";
            boolean digit = b >= '0' && b <= '9';
            if (b == 32 || b == 10 || digit) {
                taken(1, x, 0, s);
                due(digit ? 7 + 10 * (b - '0') : 7, x.of(0, 6));
            } else {
                faulty(x, 0, s, 1, isLetter(b) ? 0 : 5);
            }
        }
    }

    private static void blanksBetween() {
        promise = "Blanks (32, 10) between";
        taken(2, town(2), 0, "leaves1when1=1and not(2<1);winds2*3/1;");
        taken(2, town(2), 0, "\n leaves\n\n1 \n;  winds\n2\n;\n");
        taken(1, town(2), 1, "on5boat1out;");
        taken(1, town(2), 1, " on\n5\nboat\n1\nout\n;\n");
        taken(1, town(2), 2, "on5beg1;");
        taken(1, town(2), 3, "islander0kin1;");
        // But none within.
        faulty(town(2), 0, "lea ves 1;", 1, 0);
        faulty(town(2), 0, "leaveswinds 1;", 1, 0);
        faulty(town(2), 1, "on 5 boat 1 outback;", 1, 12);
        faulty(town(2), 1, "on5boatout1;", 1, 3);
        faulty(town(2), 1, "on 5 boat 1 8 out;", 1, 12);
    }

    private static void keywordsOfThatText() {
        promise = "KEYWORDS (those told here for that text)";
        String[][] words = {{"leaves", "winds", "returns", "when", "or", "and", "not", "weight", "long", "left", "here", "people",
            "wound", "time", "school", "kin", "day"}, {"on", "boat", "out", "back"},
            {"on", "beg", "free", "school", "holiday", "interest", "push"}, {"islander", "kin"}};
        for (int k = 0; k < 4; k++) {
            String begins = LINE[k].substring(0, LINE[k].indexOf(' '));
            for (int other = 0; other < 4; other++) {
                for (String word : words[other]) {
                    boolean may = k == 0 ? word.matches("leaves|winds|returns") : word.equals(begins);
                    // Who may begin a line is missed behind it; who may not is the fault.
                    faulty(town(2), k, word, 1, may ? word.length() : 0);
                }
            }
        }
        for (String word : words[0]) {
            boolean may = word.matches("weight|long|left|here|people|wound|time|school|kin|day");
            if (may) {
                taken(1, town(2), 0, "leaves " + word + ";");
                faulty(town(2), 0, "leaves 1/" + word + ";", 1, 9);
            } else {
                faulty(town(2), 0, "leaves " + word + ";", 1, 7);
            }
            faulty(town(2), 0, "leaves " + word.toUpperCase() + ";", 1, 7);
            faulty(town(2), 0, "leaves " + word + "s;", 1, 7);
            faulty(town(2), 0, "leaves " + word.substring(0, word.length() - 1) + ";", 1, 7);
        }
    }

    private static void theEnd() {
        promise = "1 what can't stand there (the end: the text's length)";
        String[][] tokens = {{"leaves", "1", "+", "2", "*", "3", "/", "4", "when", "not", "(", "1", "<", "2", "or", "3", "=", "3", "and",
            "5", ">", "4", ")", ";"}, {"on", "0", "boat", "1", "out", ";"}, {"on", "0", "beg", "0", ";"},
            {"islander", "0", "kin", "1", ";"}};
        for (int k = 0; k < 4; k++) {
            StringBuilder s = new StringBuilder();
            for (int i = 0; i + 1 < tokens[k].length; i++) {
                s.append(i > 0 ? " " : "").append(tokens[k][i]);
                faulty(town(2), k, s.toString(), 1, s.length());
                // Blanks behind are of the text.
                faulty(town(2), k, s + " \n", 1, s.length() + 2);
            }
            taken(1, town(2), k, s + " ;");
            faulty(town(2), k, LINE[k] + s, 1, LINE[k].length() + s.length());
        }
        faulty(town(2), 2, "on 0 school", 1, 11);
        faulty(town(2), 2, "on 0 interest 5", 1, 15);
    }

    private static void partByZero() {
        promise = "2 (at the NUMBER) a part by 0";
        for (String zero : new String[] {"0", "00", "000", "0000"}) {
            faulty(town(2), 0, "winds 5/" + zero + ";", 2, 8);
            faulty(town(2), 0, "winds weight / " + zero, 2, 15);
            faulty(town(2), 0, "winds 1*2/3/" + zero + "/" + zero + ";", 2, 12);
            faulty(town(2), 0, "winds 1 when 4=4/" + zero + ";", 2, 17);
        }
        taken(1, town(2), 0, "winds 5/1;");
        taken(1, town(2), 0, "winds 5/0001;");
        taken(1, town(2), 0, "winds 5/9999;");
        taken(1, town(2), 0, "winds 0/1;");
        taken(1, town(2), 0, "winds 5*0;");
        faulty(town(2), 0, "winds 5/ /0;", 1, 9);
        faulty(town(2), 0, "winds 5/weight;", 1, 8);
        faulty(town(2), 0, "winds 5/", 1, 8);
    }

    /** So many of ( and not, by turns as the bits of the way say, then 1=1 and what closes them. */
    private static String opened(int open, int way) {
        StringBuilder s = new StringBuilder();
        StringBuilder closes = new StringBuilder();
        for (int i = 0; i < open; i++) {
            boolean not = (way >> i & 1) == 1;
            s.append(not ? "not " : "(");
            closes.append(not ? "" : ")");
        }
        return s + "1=1" + closes;
    }

    private static int placeOfNinth(String s, int way) {
        int at = 0;
        for (int i = 0; i < 8; i++) {
            at += (way >> i & 1) == 1 ? 4 : 1;
        }
        return s.indexOf("when ") + 5 + at;
    }

    private static void eightOpen() {
        promise = "3 (at it) the 9th ( or not that is open: eight may be";
        for (int way = 0; way < 256; way++) {
            RopeClock x = town(2);
            taken(2, x, 0, "winds 3 when " + opened(8, way) + ";winds 4;");
            due(Integer.bitCount(way) % 2 == 0 ? 3 : 4, x.of(0, 6));
        }
        // What is closed is not open: a not with what it denies, a ( with its ).
        taken(1, town(2), 0, "winds 3 when " + times(9, "not 1=1 and ") + "1=1;");
        taken(1, town(2), 0, "winds 3 when " + times(9, "(1=1) or ") + "not 1=1;");
        taken(1, town(2), 0, "winds 3 when " + opened(8, 0) + " and " + opened(8, 255) + " or " + opened(8, 85) + ";");
        taken(1, town(2), 0, "winds 3 when (((((((not 1=1 and (1=1) or not 1=1)))))));");
        taken(2, town(2), 0, "winds 3 when " + opened(8, 0) + ";winds 4 when " + opened(8, 0) + ";");
    }

    private static void ninthOpen() {
        promise = "3 (at it) the 9th ( or not that is open";
        for (int way = 0; way < 512; way += 3) {
            String s = "winds 3 when " + opened(9, way) + ";";
            faulty(town(2), 0, s, 3, placeOfNinth(s, way));
        }
        String all = "winds 3 when " + opened(12, 0) + ";";
        faulty(town(2), 0, all, 3, 21);
        // Though what is behind it be wrong, or it be within the second of two.
        faulty(town(2), 0, "winds 3 when (((((((( (", 3, 22);
        faulty(town(2), 0, "winds 3 when (((((((( )", 1, 22);
        faulty(town(2), 0, "winds 3 when ((((((((1=1 and not 1=1", 3, 29);
        faulty(town(2), 0, "winds 3 when ((((((((1=1 or (1=1", 3, 28);
        faulty(town(2), 0, "winds 3 when (((((((not 1=1 and not (1=1", 3, 36);
    }

    private static void firstByItsPlace() {
        promise = "FAULTS, the first by its place, at one place the least";
        faulty(town(2), 0, "winds 1/0 2;", 2, 8);
        faulty(town(2), 0, "winds 1 2/0;", 1, 8);
        faulty(town(2), 0, "winds 1/0 when (((((((((", 2, 8);
        faulty(town(2), 0, "winds 1 when ((((((((( 1/0", 3, 21);
        faulty(town(2), 0, "winds 1 when (((((((( 1/0=(", 2, 24);
        faulty(town(2), 1, "on 1000 boat 19 up", 2, 3);
        faulty(town(2), 1, "on x boat 19 out;", 1, 3);
        faulty(town(2), 1, "on 5 boot 19 out;", 1, 5);
        faulty(town(2), 1, "on 5 boat 19 up;", 2, 10);
        faulty(town(2), 2, "on 5 beg 2 2;", 2, 9);
        faulty(town(2), 2, "on 1000 beg 2;", 2, 3);
        faulty(town(2), 3, "islander 2 kin 2;", 2, 9);
        faulty(town(2), 3, "islander 2 kon 0;", 2, 9);
        faulty(town(2), 3, "islander 1 kon 1;", 1, 11);
        faulty(town(2), 3, "islander 1 kin 1 ?", 2, 15);
    }

    private static void grammarOfTheLaw() {
        promise = "THE LAW: B = A {or A}. A = C {and C}. C = E (< | = | >) E | not C | ( B ). E = T {(+ | -) T}.";
        String[] good = {"1=1", "not 1=1", "(1=1)", "((1=1))", "not (1=1 or 2=2)", "not not 1=1", "1=1 and 2=2 or 3=3 and 4=4",
            "1+2-3*4/5=6", "not(1=1)and(2=2)or not 3=3", "kin>0"};
        for (String b : good) {
            taken(1, town(2), 0, "leaves 1 when " + b + ";");
        }
        // The place counts from the condition's begin.
        Object[][] bad = {{"", 0}, {"1", 1}, {"not", 3}, {"()", 1}, {"(1=1", 4}, {"1=1)", 3}, {"1=", 2}, {"=1", 0}, {"1==1", 2},
            {"1<>1", 2}, {"1=1=1", 3}, {"(1)=1", 2}, {"(1+1)=2", 4}, {"1=(1)", 2}, {"1=1 or", 6}, {"or 1=1", 0}, {"1=1 and", 7},
            {"and 1=1", 0}, {"1=1 not 1=1", 4}, {"1=1 (1=1)", 4}, {"1=not 1", 2}, {"-1=1", 0}, {"1+=1", 2}, {"1-=1", 2},
            {"1=+1", 2}, {"1=1 when 1=1", 4}, {"1=1 or or 1=1", 7}, {"1 and 1=1", 2}, {"winds=1", 0}};
        for (Object[] b : bad) {
            faulty(town(2), 0, "leaves 1 when " + b[0] + ";", 1, 14 + (Integer) b[1]);
        }
        Object[][] sums = {{"", 0}, {"+1", 0}, {"-1", 0}, {"1+", 2}, {"1*", 2}, {"*1", 0}, {"(1)", 0}, {"1+(1)", 2}, {"1--1", 2},
            {"1=1", 1}, {"not 1", 0}, {"1 1", 2}, {"weight long", 7}};
        for (Object[] e : sums) {
            faulty(town(2), 0, "leaves " + e[0] + ";", 1, 7 + (Integer) e[1]);
        }
    }

    private static void fullTape() {
        promise = "400 bytes of the TAPE as a text";
        String sum = "leaves 1" + times(195, "+1");
        RopeClock x = town(2);
        taken(1, x, 0, sum + " ;");
        due(196, x.of(0, 5));
        faulty(town(2), 0, sum + " +", 1, 400);
        faulty(town(2), 0, sum + " ?", 1, 399);
        faulty(town(2), 0, times(400, "x"), 1, 0);
        faulty(town(2), 0, times(400, "1"), 1, 0);
        taken(0, town(2), 0, times(400, "\n"));
        faulty(town(2), 0, times(399, " ") + ";", 1, 399);
        String products = "leaves 1" + times(64, "*1-1*1") + "+70";
        RopeClock y = town(2);
        taken(1, y, 0, products + times(399 - products.length(), " ") + ";");
        due(1 - 64 + 70, y.of(0, 5));
        String choices = "leaves 7 when 1=2" + times(47, " or 1=2") + " or 1=1";
        RopeClock z = town(2);
        taken(2, z, 0, choices + ";leaves 8;" + times(400 - choices.length() - 10, " "));
        due(7, z.of(0, 5));
    }
}
