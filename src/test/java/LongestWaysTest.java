import java.util.HashMap;
import java.util.Map;

/**
 * Six RULES that keep the number of LETTERS, and no two of whose LEFT sides meet: every order takes the same number
 * of steps, from twelve thousand million to nineteen million million for the STRINGS here. What is due is worked out
 * from the right with all parts kept; where that takes a lot of room, another program did so.
 */
public final class LongestWaysTest {
    private static final int FULL = -4;
    private static final String[][] RULES = {
        {"20", "03"}, {"30", "23"}, {"3100", "0131"}, {"3101", "0133"}, {"3110", "0133"}, {"3111", "0111"}
    };
    private static final String TAIL = "100110010010110011101110011010111011110110111111";
    private static final Map<String, String> KNOWN = new HashMap<>();
    private static int wrong = 0;

    private static void due(String call, Object got, Object want) {
        if (!got.equals(want)) {
            wrong++;
            System.out.println(call + " answered " + got + ", due is " + want);
        }
    }

    private static void put(LikeWords x, int slot, String s) {
        for (char c : s.toCharArray()) x.letter(c - '0');
        x.slot(slot);
    }

    private static String get(LikeWords x, int slot) {
        StringBuilder s = new StringBuilder();
        for (int i = 0; i < x.length(slot); i++) s.append(x.at(slot, i));
        return s.toString();
    }

    private static LikeWords made() {
        LikeWords x = new LikeWords();
        x.letters(4);
        for (String[] rule : RULES) {
            put(x, 1, rule[0]);
            put(x, 2, rule[1]);
            x.law(1, 2);
        }
        due("see(4)", x.see(4), 6);
        due("closed()", x.closed(), 1);
        return x;
    }

    private static String start(int threes) {
        return ("3".repeat(threes) + TAIL + "1".repeat(60)).substring(0, 60);
    }

    /** What a LETTER ahead of a STRING that is LEAST comes to. */
    private static String ahead(char c, String s) {
        String all = c + s;
        String known = KNOWN.get(all);
        if (known != null) return known;
        for (String[] rule : RULES) {
            if (!all.startsWith(rule[0])) continue;
            String end = reduced(rule[1], all.substring(rule[0].length()));
            KNOWN.put(all, end);
            return end;
        }
        return all;
    }

    private static String reduced(String s, String behind) {
        String end = behind;
        for (int i = s.length() - 1; i >= 0; i--) end = ahead(s.charAt(i), end);
        return end;
    }

    private static void dueReduced(LikeWords x, int threes, String want) {
        put(x, 0, start(threes));
        due("reduce with " + threes + " times 3", x.reduce(0, 0), 60);
        due("what " + start(threes) + " reduces to", get(x, 0), want);
    }

    /** The other calls that REDUCE go the same way. */
    private static void lookAtOtherCalls() {
        LikeWords x = made();
        String end = reduced(start(2), "");
        put(x, 0, start(2));
        put(x, 1, end);
        put(x, 2, end.substring(0, 59) + "0");
        due("like(0, 1)", x.like(0, 1), 1);
        due("like(2, 0)", x.like(2, 0), 0);
        due("power(0, 1, 3)", x.power(0, 1, 3), 60);
        due("slot 3 then", get(x, 3), end);
        due("power(0, 2, 3)", x.power(0, 2, 3), FULL);
        due("rank(0)", x.rank(0), (long) FULL);
        due("order(0)", x.order(0), FULL);
        due("inverse(0, 3)", x.inverse(0, 3), FULL);
        due("makes(0, 1)", x.makes(0, 1), FULL);
        due("slot 0 then", get(x, 0), start(2));
    }

    public static void main(String[] args) {
        dueReduced(made(), 2, reduced(start(2), ""));
        dueReduced(made(), 4, reduced(start(4), ""));
        dueReduced(made(), 8, "000000001010001010100010001010001010101000101010001111111111");
        LikeWords x = made();
        dueReduced(x, 13, "000000000000010100010101000100000101010100010101010001011111");
        // With the room that the way above has asked for.
        dueReduced(x, 2, reduced(start(2), ""));
        lookAtOtherCalls();
        System.out.println(wrong == 0 ? "longest ways: all answers are as due" : wrong + " answers are not as due");
        if (wrong != 0) System.exit(1);
    }
}
