/** Each promise of the document by itself: ordinary inputs, the edges that it names, and wrong inputs. */
public final class PromisesTest {
    private static final int UNKNOWN = -1, OUTSIDE = -2, STATE = -3, FULL = -4, NONE = -9;
    private static final String THIRTY_ONE = "010=011,000000000000=0,0011=0110,11111111111=1";
    private static int wrong = 0;
    private static int promise = 0;

    private static void due(String call, long got, long want) {
        if (got != want) {
            wrong++;
            System.out.println("promise " + promise + ": " + call + " answered " + got + ", due is " + want);
        }
    }

    private static void due(String what, String got, String want) {
        if (!got.equals(want)) {
            wrong++;
            System.out.println("promise " + promise + ": " + what + " is \"" + got + "\", due is \"" + want + "\"");
        }
    }

    /** A SLOT gets a STRING written out. */
    private static void put(LikeWords x, String s, int slot) {
        x.clear();
        for (int i = 0; i < s.length(); i++) x.letter(s.charAt(i) - '0');
        x.slot(slot);
    }

    private static String text(LikeWords x, int slot) {
        StringBuilder s = new StringBuilder();
        for (int i = 0; i < x.length(slot); i++) s.append(x.at(slot, i));
        return s.toString();
    }

    private static String side(LikeWords x, int r, boolean left) {
        StringBuilder s = new StringBuilder();
        for (int i = 0; x.rule(r, left, i) >= 0; i++) s.append(x.rule(r, left, i));
        return s.toString();
    }

    private static String rules(LikeWords x) {
        StringBuilder s = new StringBuilder();
        for (int r = 0; r < x.total(2); r++) {
            s.append(r > 0 ? "," : "").append(side(x, r, true)).append('>').append(side(x, r, false));
        }
        return s.toString();
    }

    /** A new object with LETTERS and laws, such as "00=,11=", and nothing in SLOTS; SEEN to m if that is above 0. */
    private static LikeWords made(int n, String laws, int m) {
        LikeWords x = new LikeWords();
        x.letters(n);
        for (String law : laws.isEmpty() ? new String[0] : laws.split(",")) {
            String[] sides = law.split("=", -1);
            put(x, sides[0], 0);
            put(x, sides[1], 1);
            x.law(0, 1);
        }
        put(x, "", 0);
        put(x, "", 1);
        if (m > 0) x.see(m);
        return x;
    }

    private static LikeWords six() {
        return made(2, "00=,11=,010101=", 12);
    }

    private static String times(String s, int k) {
        return s.repeat(k);
    }

    private static void newObject() {
        LikeWords x = new LikeWords();
        due("total(0)", x.total(0), 2);
        due("total(1)", x.total(1), 0);
        due("total(2)", x.total(2), 0);
        due("total(3)", x.total(3), 0);
        due("seen()", x.seen(), NONE);
        due("closed()", x.closed(), STATE);
        due("size()", x.size(), STATE);
        for (int k = 0; k < 8; k++) due("length(" + k + ")", x.length(k), 0);
        due("letter(1)", x.letter(1), 1);
        due("letter(2)", x.letter(2), UNKNOWN);
        due("another object's total(3)", new LikeWords().total(3), 0);
    }

    private static void letters() {
        LikeWords x = made(2, "00=,11=", 5);
        for (int k = 0; k < 8; k++) put(x, "0101", k);
        x.letter(1);
        for (int n : new int[] {0, 5, -1, Integer.MIN_VALUE, Integer.MAX_VALUE}) due("letters(" + n + ")", x.letters(n), OUTSIDE);
        due("total(0)", x.total(0), 2);
        due("total(1)", x.total(1), 2);
        due("seen()", x.seen(), 5);
        due("length(3)", x.length(3), 4);
        due("total(3)", x.total(3), 1);
        due("letters(4)", x.letters(4), 2);
        due("total(0)", x.total(0), 4);
        due("total(1)", x.total(1), 0);
        due("total(2)", x.total(2), 0);
        due("total(3)", x.total(3), 0);
        due("seen()", x.seen(), NONE);
        for (int k = 0; k < 8; k++) due("length(" + k + ")", x.length(k), 0);
        due("at(3, 0)", x.at(3, 0), NONE);
        due("letter(3)", x.letter(3), 1);
        due("letters(4)", x.letters(4), 4);
        due("total(3)", x.total(3), 0);
        due("letters(1)", x.letters(1), 4);
        due("letter(1)", x.letter(1), UNKNOWN);
        due("letters(3)", x.letters(3), 1);
        due("letter(2)", x.letter(2), 1);
    }

    private static void letter() {
        LikeWords x = new LikeWords();
        due("letter(-1)", x.letter(-1), UNKNOWN);
        due("letter(2)", x.letter(2), UNKNOWN);
        for (int i = 1; i <= 60; i++) due("letter", x.letter(i % 2), i);
        due("letter(0)", x.letter(0), FULL);
        due("letter(2)", x.letter(2), UNKNOWN);
        due("total(3)", x.total(3), 60);
        due("slot(0)", x.slot(0), 60);
        due("at(0, 58)", x.at(0, 58), 1);
        due("at(0, 59)", x.at(0, 59), 0);
        due("at(0, 60)", x.at(0, 60), NONE);
    }

    private static void clear() {
        LikeWords x = new LikeWords();
        due("clear()", x.clear(), 0);
        x.letter(0);
        x.letter(1);
        put(x, "1", 2);
        x.letter(0);
        x.letter(1);
        due("clear()", x.clear(), 2);
        due("clear()", x.clear(), 0);
        due("length(2)", x.length(2), 1);
        due("letter(1)", x.letter(1), 1);
    }

    private static void slot() {
        LikeWords x = new LikeWords();
        x.letter(1);
        x.letter(0);
        due("slot(8)", x.slot(8), UNKNOWN);
        due("slot(-1)", x.slot(-1), UNKNOWN);
        due("total(3)", x.total(3), 2);
        due("slot(7)", x.slot(7), 2);
        due("total(3)", x.total(3), 0);
        due("SLOT 7", text(x, 7), "10");
        due("SLOT 0", text(x, 0), "");
        x.letter(1);
        due("SLOT 7", text(x, 7), "10");
        due("slot(7)", x.slot(7), 1);
        due("SLOT 7", text(x, 7), "1");
        due("slot(7)", x.slot(7), 0);
        due("SLOT 7", text(x, 7), "");
    }

    private static void at() {
        LikeWords x = made(3, "", 0);
        put(x, "201", 4);
        due("at(4, 0)", x.at(4, 0), 2);
        due("at(4, 1)", x.at(4, 1), 0);
        due("at(4, 2)", x.at(4, 2), 1);
        due("at(4, 3)", x.at(4, 3), NONE);
        due("at(4, -1)", x.at(4, -1), NONE);
        due("at(4, MAX)", x.at(4, Integer.MAX_VALUE), NONE);
        due("at(5, 0)", x.at(5, 0), NONE);
        due("at(8, 0)", x.at(8, 0), UNKNOWN);
        due("at(-1, -1)", x.at(-1, -1), UNKNOWN);
        put(x, "0", 4);
        due("at(4, 1)", x.at(4, 1), NONE);
    }

    private static void length() {
        LikeWords x = new LikeWords();
        due("length(0)", x.length(0), 0);
        put(x, "0110", 0);
        due("length(0)", x.length(0), 4);
        due("length(7)", x.length(7), 0);
        due("length(8)", x.length(8), UNKNOWN);
        due("length(-1)", x.length(-1), UNKNOWN);
    }

    private static void law() {
        LikeWords x = new LikeWords();
        put(x, times("01", 6), 0);
        put(x, times("0", 13), 1);
        x.see(3);
        due("law(1, 8)", x.law(1, 8), UNKNOWN);
        due("law(-1, 0)", x.law(-1, 0), UNKNOWN);
        due("law(0, 1)", x.law(0, 1), STATE);
        due("law(1, 0)", x.law(1, 0), STATE);
        due("seen()", x.seen(), 3);
        due("law(0, 2)", x.law(0, 2), 1);
        due("seen()", x.seen(), NONE);
        due("law(2, 0)", x.law(2, 0), 2);
        for (int i = 3; i <= 8; i++) due("law(2, 2)", x.law(2, 2), i);
        x.see(4);
        due("law(2, 2)", x.law(2, 2), FULL);
        due("law(2, 1)", x.law(2, 1), STATE);
        due("law(2, 9)", x.law(2, 9), UNKNOWN);
        due("total(1)", x.total(1), 8);
        due("seen()", x.seen(), 4);
        LikeWords y = new LikeWords();
        put(y, "00", 0);
        y.law(0, 1);
        put(y, "11", 0);
        y.see(3);
        due("RULES of a law whose SLOT was changed", rules(y), "00>");
    }

    private static void free() {
        LikeWords x = six();
        put(x, "01", 2);
        x.letter(1);
        due("free()", x.free(), 3);
        due("total(1)", x.total(1), 0);
        due("total(2)", x.total(2), 0);
        due("seen()", x.seen(), NONE);
        due("SLOT 2", text(x, 2), "01");
        due("total(3)", x.total(3), 1);
        due("free()", x.free(), 0);
        due("see(4)", x.see(4), 0);
        due("least()", x.least(), 31);
        due("free()", x.free(), 0);
        due("seen()", x.seen(), NONE);
        due("law(2, 3)", x.law(2, 3), 1);
        due("see(4)", x.see(4), 1);
        due("RULES", rules(x), "01>");
    }

    private static void see() {
        int[] longest = {0, 20, 12, 8, 6};
        for (int n = 1; n <= 4; n++) {
            LikeWords x = made(n, "", 2);
            for (int m : new int[] {0, -1, longest[n] + 1, 21, Integer.MIN_VALUE, Integer.MAX_VALUE}) {
                due("see(" + m + ") of " + n, x.see(m), OUTSIDE);
                due("seen()", x.seen(), 2);
            }
            due("see(" + longest[n] + ") of " + n, x.see(longest[n]), 0);
            due("seen()", x.seen(), longest[n]);
            due("see(1)", x.see(1), 0);
            due("seen()", x.seen(), 1);
        }
        LikeWords x = six();
        due("RULES seen to 12", rules(x), "00>,11>,101>010");
        due("see(8)", x.see(8), 4);
        due("RULES seen to 8", rules(x), "00>,11>,0101>10,1010>01");
        due("see(5)", x.see(5), 2);
        due("RULES seen to 5", rules(x), "00>,11>");
        due("see(1)", x.see(1), 0);
        due("forty rules", made(2, "01000=0001,1100=1011,11110=01101", 0).see(11), 40);
        LikeWords y = made(2, "0=1011,10001=11110", 3);
        due("seen()", y.seen(), 3);
        due("forty-one rules", y.see(12), FULL);
        due("seen()", y.seen(), NONE);
        due("total(2)", y.total(2), 0);
        due("least()", y.least(), STATE);
        due("closed()", y.closed(), STATE);
        due("rule(0, true, 0)", y.rule(0, true, 0), STATE);
        due("total(1)", y.total(1), 2);
        due("one LETTER that is none", rules(made(2, "0=", 3)), "0>");
        due("LETTERS that are alike", rules(made(4, "2=0,3=1", 3)), "2>0,3>1");
        due("a law longer than what is SEEN", made(2, "0101=", 0).see(3), 0);
    }

    private static void seen() {
        LikeWords x = new LikeWords();
        due("seen()", x.seen(), NONE);
        x.see(7);
        due("seen()", x.seen(), 7);
        x.see(13);
        due("seen()", x.seen(), 7);
        x.see(2);
        due("seen()", x.seen(), 2);
        put(x, "01", 1);
        due("seen()", x.seen(), 2);
        x.law(1, 1);
        due("seen()", x.seen(), NONE);
    }

    private static void least() {
        due("least()", new LikeWords().least(), STATE);
        due("least()", six().least(), 6);
        due("least() of all", made(3, "", 4).least(), 1 + 3 + 9 + 27 + 81);
        due("least() of one LETTER", made(1, "00000=", 20).least(), 5);
        due("least() of 01=10", made(2, "01=10", 3).least(), 1 + 2 + 3 + 4);
        // Four zeros are JOINED with nothing that short, though RULES would bring them to one.
        due("least() where RULES bring more together", made(1, "0=00000,000000=00000", 7).least(), 3);
    }

    private static void rule() {
        LikeWords x = new LikeWords();
        due("rule(0, true, 0)", x.rule(0, true, 0), STATE);
        due("rule(-1, true, 0)", x.rule(-1, true, 0), STATE);
        x.see(3);
        due("rule(0, true, 0)", x.rule(0, true, 0), UNKNOWN);
        x = six();
        due("rule(-1, false, 0)", x.rule(-1, false, 0), UNKNOWN);
        due("rule(3, false, 0)", x.rule(3, false, 0), UNKNOWN);
        due("rule(3, true, -1)", x.rule(3, true, -1), UNKNOWN);
        due("rule(2, true, 0)", x.rule(2, true, 0), 1);
        due("rule(2, true, 1)", x.rule(2, true, 1), 0);
        due("rule(2, true, 2)", x.rule(2, true, 2), 1);
        due("rule(2, true, 3)", x.rule(2, true, 3), NONE);
        due("rule(2, true, -1)", x.rule(2, true, -1), NONE);
        due("rule(2, true, MAX)", x.rule(2, true, Integer.MAX_VALUE), NONE);
        due("rule(2, false, 1)", x.rule(2, false, 1), 1);
        due("rule(0, false, 0)", x.rule(0, false, 0), NONE);
        due("RULES of 3 LETTERS", rules(made(3, "210=,02=20,11=2", 4)), "11>2,20>02,21>12,102>");
        due("RULES where one is in another", rules(made(1, "0=00000,000000=00000", 7)), "00>0,00000>0");
        due("a long RULE", rules(made(1, times("0", 12) + "=" + times("0", 3), 20)), times("0", 12) + ">000");
    }

    private static void closed() {
        due("closed()", new LikeWords().closed(), STATE);
        due("closed() without laws", made(2, "", 1).closed(), 1);
        due("closed() of six", six().closed(), 1);
        due("closed() where a law is too long", made(1, "00000=", 4).closed(), 0);
        due("closed() of the same, longer", made(1, "00000=", 5).closed(), 1);
        due("closed() where a rule meets itself", made(2, "010=1", 3).closed(), 0);
        due("closed() where two rules meet", made(2, "01=0,10=1", 2).closed(), 0);
        due("closed() of the same, longer", made(2, "01=0,10=1", 3).closed(), 1);
        due("closed() where one is in another", made(1, "0=00000,000000=00000", 7).closed(), 1);
        // Two RULES, one LEFT side being in the other, and nothing else that would not agree.
        due("RULES where one ends another", rules(made(2, "110=,110=0", 3)), "0>,110>");
        due("closed() where one that ends another does not agree", made(2, "110=,110=0", 3).closed(), 0);
        due("RULES where one begins another", rules(made(2, "011=,011=0", 3)), "0>,011>");
        due("closed() where one that begins another does not agree", made(2, "011=,011=0", 3).closed(), 0);
        due("RULES where one is amid another", rules(made(2, "101=,101=0", 3)), "0>,101>");
        due("closed() where one amid another does not agree", made(2, "101=,101=0", 3).closed(), 0);
        due("closed() of the same, longer", made(2, "101=,101=0", 5).closed(), 1);
        due("closed() of a law with like sides", made(2, "0101=0101", 2).closed(), 1);
        LikeWords x = six();
        x.see(8);
        due("closed() of six to 8", x.closed(), 0);
        x.law(0, 0);
        due("closed() behind a law", x.closed(), STATE);
    }

    private static void reduce() {
        LikeWords x = six();
        put(x, "1010110", 4);
        due("reduce(4, 5)", x.reduce(4, 5), 3);
        due("SLOT 5", text(x, 5), "010");
        due("SLOT 4", text(x, 4), "1010110");
        due("reduce(4, 4)", x.reduce(4, 4), 3);
        due("SLOT 4", text(x, 4), "010");
        put(x, times("01", 29) + "11", 4);
        due("reduce(4, 5) of sixty", x.reduce(4, 5), 2);
        due("SLOT 5", text(x, 5), "10");
        due("reduce(8, 5)", x.reduce(8, 5), UNKNOWN);
        due("reduce(4, -1)", x.reduce(4, -1), UNKNOWN);
        x.see(8);
        due("reduce(4, 5), not CLOSED, long", x.reduce(4, 5), STATE);
        due("SLOT 5", text(x, 5), "10");
        put(x, "10111", 4);
        due("reduce(4, 5), not CLOSED", x.reduce(4, 5), 3);
        due("SLOT 5, the LEAST that is JOINED", text(x, 5), "101");
        put(x, "0101", 4);
        due("reduce(4, 5), not CLOSED", x.reduce(4, 5), 2);
        due("SLOT 5, the LEAST that is JOINED", text(x, 5), "10");
        put(x, times("0", 8), 4);
        due("reduce(4, 5), not CLOSED, 8", x.reduce(4, 5), 0);
        put(x, times("0", 9), 4);
        due("reduce(4, 5), not CLOSED, 9", x.reduce(4, 5), STATE);
        due("reduce(8, 5)", x.reduce(8, 5), UNKNOWN);
        x.free();
        due("reduce(0, 0), nothing SEEN", x.reduce(0, 0), STATE);
        due("reduce(0, 8), nothing SEEN", x.reduce(0, 8), UNKNOWN);
        LikeWords y = made(1, "0=00000,000000=00000", 7);
        put(y, "0000", 1);
        due("reduce(1, 2), by RULES", y.reduce(1, 2), 1);
        LikeWords z = made(2, "10=01", 3);
        put(z, times("1", 30) + times("0", 30), 1);
        due("reduce(1, 1) of thirty and thirty", z.reduce(1, 1), 60);
        due("SLOT 1", text(z, 1), times("0", 30) + times("1", 30));
        rightSidesWithLeftSides();
    }

    /** A RIGHT side may have a LEFT side in it, where STRINGS that lead further would be longer than what is SEEN. */
    private static void rightSidesWithLeftSides() {
        LikeWords x = made(4, "223=,3=,0=22,000=111,32=", 3);
        due("RULES", rules(x), "0>,2>,3>,111>000");
        due("closed()", x.closed(), 1);
        put(x, "1121113111", 1);
        due("reduce(1, 2), RIGHT side with LEFT ones", x.reduce(1, 2), 2);
        due("SLOT 2", text(x, 2), "11");
        LikeWords y = made(3, "100=1012,0=1212,2=", 8);
        due("RULES", rules(y), "2>,10>01,11>0,000>00,001>00,1000001>1000000");
        due("closed()", y.closed(), 1);
        put(y, "1000001", 1);
        due("reduce(1, 2), RIGHT side with LEFT ones", y.reduce(1, 2), 2);
        due("SLOT 2", text(y, 2), "00");
    }

    private static void like() {
        LikeWords x = six();
        put(x, "101", 1);
        put(x, "010", 2);
        put(x, "01", 3);
        put(x, times("01", 30), 4);
        due("like(1, 2)", x.like(1, 2), 1);
        due("like(1, 3)", x.like(1, 3), 0);
        due("like(3, 3)", x.like(3, 3), 1);
        due("like(4, 0)", x.like(4, 0), 1);
        due("SLOT 1", text(x, 1), "101");
        due("like(8, 0)", x.like(8, 0), UNKNOWN);
        due("like(0, -1)", x.like(0, -1), UNKNOWN);
        x.see(8);
        due("like(1, 2), not CLOSED", x.like(1, 2), 0);
        due("like(1, 4), not CLOSED", x.like(1, 4), STATE);
        due("like(4, 1), not CLOSED", x.like(4, 1), STATE);
        put(x, "11011", 5);
        put(x, "0", 6);
        due("like(5, 6), not CLOSED", x.like(5, 6), 1);
        due("like(8, 4), not CLOSED", x.like(8, 4), UNKNOWN);
        x.free();
        due("like(1, 1), nothing SEEN", x.like(1, 1), STATE);
        due("like(1, 8), nothing SEEN", x.like(1, 8), UNKNOWN);
    }

    private static void states() {
        LikeWords x = six();
        due("states()", x.states(), 4);
        x.see(8);
        due("states(), not CLOSED", x.states(), STATE);
        x.free();
        due("states(), nothing SEEN", x.states(), STATE);
        x.see(2);
        due("states() without RULES", x.states(), 1);
        due("states() of a LETTER that is none", made(2, "0=", 3).states(), 1);
        due("states() where one LEFT side is in another", made(1, "0=00000,000000=00000", 7).states(), 5);
        due("states() of 00000", made(1, "00000=", 20).states(), 5);
    }

    private static void leads() {
        LikeWords x = six();
        int[][] to = {{1, 2}, {NONE, 2}, {3, NONE}, {NONE, NONE}};
        for (int s = 0; s < 4; s++) {
            for (int l = 0; l < 2; l++) due("leads(" + s + ", " + l + ")", x.leads(s, l), to[s][l]);
        }
        due("leads(4, 0)", x.leads(4, 0), UNKNOWN);
        due("leads(-1, 0)", x.leads(-1, 0), UNKNOWN);
        due("leads(0, 2)", x.leads(0, 2), UNKNOWN);
        due("leads(0, -1)", x.leads(0, -1), UNKNOWN);
        due("leads(1, -1)", x.leads(1, -1), UNKNOWN);
        due("leads(MAX, 0)", x.leads(Integer.MAX_VALUE, 0), UNKNOWN);
        due("leads(0, MAX)", x.leads(0, Integer.MAX_VALUE), UNKNOWN);
        x.see(8);
        due("leads(9, 9), not CLOSED", x.leads(9, 9), STATE);
        x.free();
        due("leads(0, 0), nothing SEEN", x.leads(0, 0), STATE);
        LikeWords y = made(1, "0=00000,000000=00000", 7);
        due("leads(0, 0)", y.leads(0, 0), 1);
        for (int s = 1; s < 5; s++) due("leads(" + s + ", 0)", y.leads(s, 0), NONE);
        LikeWords z = made(2, "0011=", 12);
        due("states()", z.states(), 4);
        due("leads(2, 0)", z.leads(2, 0), 2);
        due("leads(3, 0)", z.leads(3, 0), 1);
        due("leads(1, 1)", z.leads(1, 1), 0);
    }

    private static void count() {
        LikeWords x = six();
        long[] many = {1, 2, 2, 1, 0};
        for (int m = 0; m <= 4; m++) due("count(" + m + ")", x.count(m), many[m]);
        due("count(30)", x.count(30), 0);
        due("count(31)", x.count(31), OUTSIDE);
        due("count(-1)", x.count(-1), OUTSIDE);
        x.see(8);
        due("count(0), not CLOSED", x.count(0), STATE);
        due("count(31), not CLOSED", x.count(31), OUTSIDE);
        x.free();
        due("count(0), nothing SEEN", x.count(0), STATE);
        due("count(30) of 4 LETTERS", made(4, "", 1).count(30), 1L << 60);
        due("count(30) of 10=01", made(2, "10=01", 4).count(30), 31);
        due("count(30) of 00", made(2, "00=", 4).count(30), 2178309);
        due("count(4) where four zeros are LEAST among what is SEEN", made(1, "0=00000,000000=00000", 7).count(4), 0);
    }

    private static void size() {
        due("size(), nothing SEEN", new LikeWords().size(), STATE);
        LikeWords x = six();
        due("size()", x.size(), 6);
        x.see(8);
        due("size(), not CLOSED", x.size(), STATE);
        due("size() of all", made(2, "", 3).size(), NONE);
        due("size() of none but one", made(2, "0=,1=", 3).size(), 1);
        due("size() of one LETTER", made(1, "", 3).size(), NONE);
        due("size() of 10=01", made(2, "10=01", 3).size(), NONE);
        due("size() of 20", made(1, times("0", 10) + "=", 20).size(), 10);
        due("size() of 144", made(2, "000000000000=,111111111111=,01=10", 12).size(), 144);
        due("size(), the longest has 30",
                made(2, "010=011,00000000000=0,0011=0110,11111111111=1", 12).size(), 1221);
        due("size(), the longest has 31",
                made(2, THIRTY_ONE, 12).size(), FULL);
    }

    private static void nth() {
        LikeWords x = six();
        String[] ones = {"", "0", "1", "01", "10", "010"};
        for (int i = 0; i < 6; i++) {
            due("nth(" + i + ", 3)", x.nth(i, 3), ones[i].length());
            due("SLOT 3", text(x, 3), ones[i]);
        }
        due("nth(6, 3)", x.nth(6, 3), NONE);
        due("nth(MAX, 3)", x.nth(Long.MAX_VALUE, 3), NONE);
        due("nth(-1, 3)", x.nth(-1, 3), OUTSIDE);
        due("nth(MIN, 3)", x.nth(Long.MIN_VALUE, 3), OUTSIDE);
        due("nth(-1, 8)", x.nth(-1, 8), UNKNOWN);
        due("nth(0, -1)", x.nth(0, -1), UNKNOWN);
        due("SLOT 3", text(x, 3), "010");
        x.see(8);
        due("nth(0, 3), not CLOSED", x.nth(0, 3), STATE);
        due("nth(-1, 3), not CLOSED", x.nth(-1, 3), OUTSIDE);
        due("nth(-1, 8), not CLOSED", x.nth(-1, 8), UNKNOWN);
        due("SLOT 3", text(x, 3), "010");
        LikeWords y = made(4, "", 1);
        long all = ((1L << 62) - 1) / 3;
        due("nth of the last that is told", y.nth(all - 1, 0), 30);
        due("SLOT 0", text(y, 0), times("3", 30));
        due("nth of the one behind", y.nth(all, 0), NONE);
        due("SLOT 0", text(y, 0), times("3", 30));
        due("nth of the first of 30", y.nth(((1L << 60) - 1) / 3, 0), 30);
        due("SLOT 0", text(y, 0), times("0", 30));
        LikeWords z = made(1, "", 1);
        due("nth(30, 0)", z.nth(30, 0), 30);
        due("nth(31, 0)", z.nth(31, 0), NONE);
    }

    private static void rank() {
        LikeWords x = six();
        put(x, "1010110", 4);
        due("rank(4)", x.rank(4), 5);
        due("SLOT 4", text(x, 4), "1010110");
        due("rank(0)", x.rank(0), 0);
        due("rank(8)", x.rank(8), UNKNOWN);
        due("rank(-1)", x.rank(-1), UNKNOWN);
        x.see(8);
        due("rank(0), not CLOSED", x.rank(0), STATE);
        due("rank(8), not CLOSED", x.rank(8), UNKNOWN);
        x.free();
        due("rank(0), nothing SEEN", x.rank(0), STATE);
        LikeWords y = made(4, "", 1);
        put(y, times("3", 30), 0);
        due("rank of thirty", y.rank(0), ((1L << 62) - 1) / 3 - 1);
        put(y, times("0", 31), 0);
        due("rank of thirty-one", y.rank(0), FULL);
        LikeWords z = made(2, "00=", 3);
        put(z, times("0", 60), 0);
        due("rank of sixty that become none", z.rank(0), 0);
        for (long i = 0; i < 400; i += 7) {
            z.nth(i * i, 0);
            due("rank behind nth(" + i * i + ")", z.rank(0), i * i);
        }
    }

    private static void power() {
        LikeWords x = made(1, "0000000=", 20);
        put(x, "000", 1);
        int[] many = {0, 3, 6, 2, 5, 1, 4, 0};
        for (int k = 0; k <= 7; k++) due("power(1, " + k + ", 2)", x.power(1, k, 2), many[k]);
        due("power(1, 100, 2)", x.power(1, 100, 2), 6);
        due("SLOT 2", text(x, 2), "000000");
        due("power(1, 101, 2)", x.power(1, 101, 2), OUTSIDE);
        due("power(1, -1, 2)", x.power(1, -1, 2), OUTSIDE);
        due("power(8, 101, 2)", x.power(8, 101, 2), UNKNOWN);
        due("power(1, 101, 8)", x.power(1, 101, 8), UNKNOWN);
        due("power(1, 2, 1)", x.power(1, 2, 1), 6);
        due("SLOT 1", text(x, 1), "000000");
        x.see(6);
        due("power(1, 2, 2), not CLOSED", x.power(1, 2, 2), STATE);
        due("power(1, 101, 2), not CLOSED", x.power(1, 101, 2), OUTSIDE);
        due("power(8, 2, 2), not CLOSED", x.power(8, 2, 2), UNKNOWN);
        due("SLOT 2", text(x, 2), "000000");
        LikeWords y = made(2, "", 1);
        put(y, times("01", 15), 1);
        due("power(1, 2, 2)", y.power(1, 2, 2), 60);
        due("power(1, 3, 3)", y.power(1, 3, 3), FULL);
        due("length(3)", y.length(3), 0);
        put(y, times("01", 30), 1);
        due("power(1, 1, 2)", y.power(1, 1, 2), 60);
        due("power(1, 0, 2)", y.power(1, 0, 2), 0);
        LikeWords z = made(2, "11=", 3);
        put(z, times("1", 60), 1);
        due("power of sixty that become none", z.power(1, 100, 2), 0);
        put(z, "10", 1);
        due("power(1, 3, 2)", z.power(1, 3, 2), 6);
        due("SLOT 2", text(z, 2), "101010");
    }

    private static void order() {
        LikeWords x = six();
        put(x, "0", 1);
        put(x, "01", 2);
        due("order(0)", x.order(0), 1);
        due("order(1)", x.order(1), 2);
        due("order(2)", x.order(2), 3);
        due("order(8)", x.order(8), UNKNOWN);
        due("order(-1)", x.order(-1), UNKNOWN);
        due("SLOT 2", text(x, 2), "01");
        x.see(8);
        due("order(0), not CLOSED", x.order(0), STATE);
        due("order(8), not CLOSED", x.order(8), UNKNOWN);
        x.free();
        due("order(0), nothing SEEN", x.order(0), STATE);
        LikeWords y = made(2, "0000000000=1,1111111111=", 12);
        put(y, "0", 1);
        due("order of a hundred", y.order(1), 100);
        LikeWords z = made(2, "00000000000=1,1111111111=", 12);
        put(z, "0", 1);
        due("order of a hundred and ten", z.order(1), NONE);
        LikeWords same = made(2, "00=0", 4);
        put(same, "0", 1);
        due("order of what stays", same.order(1), NONE);
        LikeWords all = made(2, "", 1);
        put(all, "0", 1);
        due("order of what grows", all.order(1), FULL);
    }

    private static void inverse() {
        LikeWords x = six();
        put(x, "01", 1);
        due("inverse(1, 2)", x.inverse(1, 2), 2);
        due("SLOT 2", text(x, 2), "10");
        due("inverse(0, 2)", x.inverse(0, 2), 0);
        due("length(2)", x.length(2), 0);
        due("inverse(1, 1)", x.inverse(1, 1), 2);
        due("SLOT 1", text(x, 1), "10");
        due("inverse(8, 1)", x.inverse(8, 1), UNKNOWN);
        due("inverse(1, 8)", x.inverse(1, 8), UNKNOWN);
        x.see(8);
        due("inverse(0, 1), not CLOSED", x.inverse(0, 1), STATE);
        due("inverse(0, -1), not CLOSED", x.inverse(0, -1), UNKNOWN);
        x.free();
        due("inverse(0, 1), nothing SEEN", x.inverse(0, 1), STATE);
        due("SLOT 1", text(x, 1), "10");
        LikeWords one = made(2, "01=", 4);
        put(one, "0", 1);
        put(one, "1", 2);
        due("inverse of what has one behind it", one.inverse(1, 3), 1);
        due("SLOT 3", text(one, 3), "1");
        due("inverse of what has one ahead of it alone", one.inverse(2, 3), NONE);
        due("SLOT 3", text(one, 3), "1");
        LikeWords hundred = made(2, "0000000000=1,1111111111=", 12);
        put(hundred, "0", 1);
        due("inverse in a hundred", hundred.inverse(1, 2), 18);
        due("SLOT 2", text(hundred, 2), times("0", 9) + times("1", 9));
        inverseAtItsEnds();
    }

    private static void inverseAtItsEnds() {
        LikeWords x = made(4, "01=,10=,23=,32=", 4);
        due("nth(1999, 1)", x.nth(1999, 1), 7);
        String last = text(x, 1);
        put(x, against(last), 2);
        due("inverse that is the two thousandth", x.inverse(2, 3), 7);
        due("SLOT 3", text(x, 3), last);
        due("nth(2000, 1)", x.nth(2000, 1), 7);
        put(x, against(text(x, 1)), 2);
        due("inverse that is the one behind it", x.inverse(2, 3), NONE);
        LikeWords all = made(2, "", 1);
        put(all, times("0", 50), 1);
        due("inverse, sixty and no more", all.inverse(1, 2), NONE);
        put(all, times("0", 51), 1);
        due("inverse, sixty-one", all.inverse(1, 2), FULL);
        due("length(2)", all.length(2), 0);
        LikeWords few = made(1, "", 1);
        put(few, times("0", 30), 1);
        due("inverse, thirty and thirty", few.inverse(1, 2), NONE);
        put(few, times("0", 31), 1);
        due("inverse, thirty-one and thirty", few.inverse(1, 2), FULL);
    }

    /** The inverse where 0 and 1 undo each other, and 2 and 3 do. */
    private static String against(String s) {
        StringBuilder t = new StringBuilder();
        for (int i = s.length() - 1; i >= 0; i--) t.append((s.charAt(i) - '0') ^ 1);
        return t.toString();
    }

    private static void makes() {
        LikeWords x = six();
        put(x, "0", 1);
        put(x, "1", 2);
        put(x, "01", 3);
        due("makes(1, 2)", x.makes(1, 2), 6);
        due("makes(1, 1)", x.makes(1, 1), 2);
        due("makes(3, 0)", x.makes(3, 0), 3);
        due("makes(0, 0)", x.makes(0, 0), 1);
        due("makes(3, 2)", x.makes(3, 2), 6);
        due("makes(8, 0)", x.makes(8, 0), UNKNOWN);
        due("makes(0, -1)", x.makes(0, -1), UNKNOWN);
        x.see(8);
        due("makes(0, 0), not CLOSED", x.makes(0, 0), STATE);
        due("makes(0, 8), not CLOSED", x.makes(0, 8), UNKNOWN);
        x.free();
        due("makes(0, 0), nothing SEEN", x.makes(0, 0), STATE);
        due("makes of 300", ofTwo("000000000000=,111111111=1,100=001,1011=1101,1010=0101"), 300);
        due("makes of 301", ofTwo("01=101,0000000=00,1111111=11"), FULL);
        LikeWords all = made(2, "", 1);
        put(all, "0", 1);
        due("makes of endless ones", all.makes(1, 0), FULL);
        LikeWords still = made(2, "000=00,01=10,11=1", 5);
        put(still, "0", 1);
        put(still, "1", 2);
        due("makes(1, 2) of what has no inverses", still.makes(1, 2), 6);
        LikeWords far = made(2, "01=1,00=0,10=0,11=1", 5);
        put(far, times("0", 60), 1);
        due("makes of sixty that become one", far.makes(1, 1), 2);
    }

    /** The LEAST STRINGS come to an end, but one of them has 31 LETTERS, and two of those are above sixty. */
    private static void thirtyOne() {
        LikeWords x = made(2, THIRTY_ONE, 12);
        String longest = times("1", 10) + times("0", 11) + times("10", 5);
        put(x, longest, 1);
        promise = 15;
        due("reduce(1, 2) of 31", x.reduce(1, 2), 31);
        due("SLOT 2", text(x, 2), longest);
        promise = 19;
        due("count(30)", x.count(30), 3);
        promise = 21;
        due("nth(1340, 3)", x.nth(1340, 3), 30);
        due("nth(1341, 3), which has 31", x.nth(1341, 3), NONE);
        due("SLOT 3", text(x, 3), times("1", 10) + times("0", 10) + times("10", 5));
        promise = 22;
        due("rank(1) of 31", x.rank(1), FULL);
        promise = 23;
        due("power(1, 1, 2) of 31", x.power(1, 1, 2), 31);
        due("power(1, 2, 3) of 31", x.power(1, 2, 3), FULL);
        due("length(3)", x.length(3), 30);
        promise = 24;
        due("order(1) of 31", x.order(1), FULL);
        promise = 25;
        due("inverse(1, 3) of 31", x.inverse(1, 3), FULL);
        due("length(3)", x.length(3), 30);
        promise = 26;
        due("makes(1, 0) of 31", x.makes(1, 0), FULL);
        due("makes(0, 1) of 31", x.makes(0, 1), FULL);
        due("makes(0, 0)", x.makes(0, 0), 1);
    }

    private static int ofTwo(String laws) {
        LikeWords x = made(2, laws, 12);
        put(x, "0", 1);
        put(x, "1", 2);
        return x.makes(1, 2);
    }

    private static void total() {
        LikeWords x = made(3, "00=,11=", 4);
        x.letter(2);
        due("total(0)", x.total(0), 3);
        due("total(1)", x.total(1), 2);
        due("total(2)", x.total(2), 2);
        due("total(3)", x.total(3), 1);
        due("total(4)", x.total(4), OUTSIDE);
        due("total(-1)", x.total(-1), OUTSIDE);
        LikeWords y = made(2, "00=,11=,010101=", 8);
        due("total(2), not CLOSED", y.total(2), 4);
        y.law(0, 0);
        due("total(2), nothing SEEN", y.total(2), 0);
        due("total(1)", y.total(1), 4);
    }

    private static void run(int number) {
        promise = number;
        switch (number) {
            case 1: newObject(); break;
            case 2: letters(); break;
            case 3: letter(); break;
            case 4: clear(); break;
            case 5: slot(); break;
            case 6: at(); break;
            case 7: length(); break;
            case 8: law(); break;
            case 9: free(); break;
            case 10: see(); break;
            case 11: seen(); break;
            case 12: least(); break;
            case 13: rule(); break;
            case 14: closed(); break;
            case 15: reduce(); break;
            case 16: like(); break;
            case 17: states(); break;
            case 18: leads(); break;
            case 19: count(); break;
            case 20: size(); break;
            case 21: nth(); break;
            case 22: rank(); break;
            case 23: power(); break;
            case 24: order(); break;
            case 25: inverse(); break;
            case 26: makes(); break;
            default: total(); break;
        }
    }

    public static void main(String[] args) {
        for (int number = 1; number <= 27; number++) run(number);
        thirtyOne();
        System.out.println("27 promises: " + (wrong == 0 ? "all answers are as due" : wrong + " answers are not as due"));
        if (wrong != 0) System.exit(1);
    }
}
