import java.util.ArrayList;
import java.util.List;

/**
 * Laws whose ways are long: read from the left, a STRING of some thirty LETTERS takes hundreds of thousands of
 * turns, and one of sixty more than can be waited for. With CLOSED RULES what it REDUCES to does not hang on the
 * order, so it is worked out here from the right, where that is short, or told by a formula.
 */
public final class LongWaysTest {
    private static final int STATE = -3, FULL = -4, NONE = -9;
    private static int wrong = 0;

    private static void due(String call, Object got, Object want) {
        if (!got.equals(want)) {
            wrong++;
            System.out.println(call + " answered " + got + ", due is " + want);
        }
    }

    private static void put(LikeWords x, int slot, String s) {
        for (char c : s.toCharArray()) x.letter(c - '0');
        x.slot(slot);
    }

    private static String get(LikeWords x, int slot) {
        StringBuilder s = new StringBuilder();
        for (int i = 0; i < x.length(slot); i++) s.append(x.at(slot, i));
        return s.toString();
    }

    private static void teach(LikeWords x, String laws) {
        x.free();
        for (String law : laws.split(" ")) {
            put(x, 6, law.substring(0, law.indexOf('=')));
            put(x, 7, law.substring(law.indexOf('=') + 1));
            x.law(6, 7);
        }
    }

    private static LikeWords made(int n, String laws, int m) {
        LikeWords x = new LikeWords();
        x.letters(n);
        teach(x, laws);
        x.see(m);
        due("closed() of " + laws, x.closed(), 1);
        return x;
    }

    private static List<String[]> rules(LikeWords x) {
        List<String[]> all = new ArrayList<>();
        for (int r = 0; r < x.total(2); r++) {
            StringBuilder left = new StringBuilder();
            StringBuilder right = new StringBuilder();
            for (int i = 0; x.rule(r, true, i) != NONE; i++) left.append(x.rule(r, true, i));
            for (int i = 0; x.rule(r, false, i) != NONE; i++) right.append(x.rule(r, false, i));
            all.add(new String[] {left.toString(), right.toString()});
        }
        return all;
    }

    /** Always the LEFT side that begins last. */
    private static String fromTheRight(List<String[]> rules, String s) {
        StringBuilder now = new StringBuilder(s);
        for (int i = now.length() - 1; i >= 0; i--) {
            for (String[] rule : rules) {
                if (now.indexOf(rule[0], i) == i) {
                    now.replace(i, i + rule[0].length(), rule[1]);
                    i = Math.min(i + rule[1].length(), now.length());
                    break;
                }
            }
        }
        return now.toString();
    }

    private static void dueReduced(LikeWords x, String s, String want) {
        put(x, 0, s);
        due("reduce of " + s, x.reduce(0, 1), want.length());
        due("what " + s + " reduces to", get(x, 1), want);
    }

    private static final String PASSING = "20=00 012=100 12=21";

    /** 1 passes all of 0 0 .. 0 and makes a 2 of the last: ones and more noughts become 0 .. 0 1 .. 1 2 .. 2. */
    private static String passed(int ones, int noughts) {
        return "0".repeat(noughts - ones) + "1".repeat(ones) + "2".repeat(ones);
    }

    private static void lookAtPassing() {
        for (int all = 30; all <= 60; all += 6) {
            for (int ones = 1; 2 * ones < all; ones++) {
                LikeWords x = made(3, PASSING, 3);
                dueReduced(x, "1".repeat(ones) + "0".repeat(all - ones), passed(ones, all - ones));
            }
        }
        LikeWords x = made(3, PASSING, 8);
        dueReduced(x, "1".repeat(16) + "0".repeat(38), passed(16, 38));
        dueReduced(x, "1".repeat(28) + "0".repeat(32), passed(28, 32));
        put(x, 0, "1".repeat(16) + "0".repeat(38));
        due("reduce(0, 0)", x.reduce(0, 0), 54);
        due("slot 0 then", get(x, 0), passed(16, 38));
    }

    private static void lookAtOtherCalls() {
        LikeWords x = made(3, PASSING, 3);
        put(x, 0, "1".repeat(28) + "0".repeat(32));
        put(x, 1, "0".repeat(4) + "1".repeat(28) + "2".repeat(28));
        put(x, 2, "0".repeat(5) + "1".repeat(27) + "2".repeat(28));
        due("like(0, 1)", x.like(0, 1), 1);
        due("like(1, 0)", x.like(1, 0), 1);
        due("like(0, 2)", x.like(0, 2), 0);
        due("like(0, 0)", x.like(0, 0), 1);
        due("rank(0)", x.rank(0), (long) FULL);
        put(x, 3, "1".repeat(14) + "0".repeat(16));
        due("nth(rank(3))", x.nth(x.rank(3), 4), 30);
        due("slot 4 then", get(x, 4), passed(14, 16));
        due("power(3, 2, 5)", x.power(3, 2, 5), 60);
        String twice = passed(14, 16) + passed(14, 16);
        due("slot 5 then", get(x, 5), fromTheRight(rules(x), twice));
        due("power(3, 3, 5)", x.power(3, 3, 5), FULL);
        due("order(3)", x.order(3), FULL);
    }

    /** RULES that keep the number of LETTERS leave no STRING an inverse but the one without LETTERS. */
    private static void lookAtInverses() {
        LikeWords x = made(3, PASSING, 3);
        put(x, 0, "1".repeat(14) + "0".repeat(16));
        due("inverse(0, 7)", x.inverse(0, 7), NONE);
        due("makes(0, 1)", x.makes(0, 1), FULL);
    }

    /** What was learnt of STRINGS by other RULES must not be used. */
    private static void lookAtForgetting() {
        String other = "00=20 12=21 21220=20221";
        String s = "1".repeat(20) + "0".repeat(40);
        LikeWords x = made(3, PASSING, 6);
        dueReduced(x, s, passed(20, 40));
        teach(x, other);
        put(x, 0, s);
        due("reduce when nothing is seen", x.reduce(0, 1), STATE);
        x.see(6);
        due("closed() of " + other, x.closed(), 1);
        dueReduced(x, s, fromTheRight(rules(x), s));
        teach(x, PASSING);
        x.see(4);
        dueReduced(x, s, passed(20, 40));
    }

    /** Short from the right alone. */
    private static void lookAtLeftLong() {
        String[][] cases = {
            {"2", "110011=011110 100=010", "8", "111111111111111111111111111111111100000000000000000000000111"},
            {"2", "01100=10001 01000=10000", "8", "010010101010101010101001001001001000000000000000000000000000"},
            {"2", "010110=001011 110=000", "12", "010101010101010101010101011011011011011011011011011011011111"},
            {"3", "12201=01120 2=0 12202=21022", "5", "122120211012001210022112202112001001201210122122122020022210"},
            {"3", "00=20 12=21 21220=20221", "6", "120120100100100100100212121212121020202020202121210000000002"},
            {"4", "322=222 0=2 212=100 133=310", "4", "131313131313131313131313333333333133011011011333333333322001"},
            {"4", "0=3 21=12 03=20 1300=0212", "5", "222222222222111111110033331212121212011011011011011011111111"},
        };
        for (String[] row : cases) {
            LikeWords x = made(Integer.parseInt(row[0]), row[1], Integer.parseInt(row[2]));
            dueReduced(x, row[3], fromTheRight(rules(x), row[3]));
        }
    }

    /** Long from either side. What is due was found by three other ways, with all parts kept; and is irreducible. */
    private static void lookAtBothLong() {
        LikeWords x = made(3, "022=200 10=01 1121=2221 10=21", 6);
        dueReduced(x, "2".repeat(48) + "1".repeat(12), "0".repeat(58) + "11");
        String laws = "23=30 32=13 133=311 312=200 210=310";
        dueReduced(made(4, laws, 6), "331111112333311211122211131222222331333301301330131311331210",
                "111111111111111111111112222111120000222111120021120021120010");
        dueReduced(made(4, laws, 4), "311111132222223030333113331211112333332111133332221211321110",
                "111111111111111111111222211112000022211111111111111112000010");
        laws = "23=30 32=13 133=311 312=200 010=310";
        dueReduced(made(4, laws, 6), "023033233232003213322000012030030020000111212133322200003103",
                "022111111111111111111111122221111200002221111111111112000103");
        laws = "23=30 32=13 133=311 312=230 210=310";
        dueReduced(made(4, laws, 6), "332211222132222222121332311122311133323333122323300332320010",
                "111111111111111111111111111111111111111111111221111111122210");
    }

    /** Long from either side, in ever more levels that are begun one by the last LETTER of another. */
    private static void lookAtChains() {
        String laws = "2110=0122 0111=2111 0212=2100 2101=1101 022=200 021=201";
        dueReduced(made(3, laws, 4), "222222222211222222222220000000000000000000111111",
                "000000000000000000000000000000000000000100111111");
        dueReduced(made(3, laws, 4), "2221000000000000000000000000000000000011111111111111111",
                "0000000000000000000000000000000000011011111111111111111");
        dueReduced(made(3, "022=200 10=01 1121=2221 10=21", 6), "222222222222222000000000000000000011111111",
                "0".repeat(40) + "11");
    }

    /** 31 becomes 01, and what is ahead counts down: 301, 231, 201, 031, 001; twice as long with each 3. */
    private static void lookAtCounting() {
        for (int threes = 1; threes < 60; threes++) {
            LikeWords x = made(4, "03=20 31=01 30=23", 2);
            String ones = "1".repeat(60 - threes);
            dueReduced(x, "3".repeat(threes) + ones, "0".repeat(threes) + ones);
        }
    }

    public static void main(String[] args) {
        lookAtPassing();
        lookAtOtherCalls();
        lookAtInverses();
        lookAtForgetting();
        lookAtLeftLong();
        lookAtBothLong();
        lookAtChains();
        lookAtCounting();
        System.out.println(wrong == 0 ? "long ways: all answers are as due" : wrong + " answers are not as due");
        if (wrong != 0) System.exit(1);
    }
}
