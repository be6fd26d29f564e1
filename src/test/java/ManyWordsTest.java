import java.util.ArrayList;
import java.util.List;
import java.util.Random;

/**
 * Sets of laws whose RULES are CLOSED, and many STRINGS under each, made by a fixed seed: what reduce() gives, beside a
 * reduction that looks for LEFT sides and nothing else. Some sets have RIGHT sides that can be REDUCED themselves, or LEFT
 * sides within others; the first nine tell apart the Grower and changes to it that the other tests did not see.
 */
public final class ManyWordsTest {
    private static final String[] SETS = {
        "2 8 0000=0101,110=101", "3 6 11=22,01=", "2 9 01000=00010,1011=1,0000=", "3 4 112=111,0101=1112,000=,00=",
        "4 5 23=13212,=22221,=2,3002=10223", "3 5 2211=1,21=12,12=01,122=002", "2 10 110=0101,11100=10110,=1111",
        "2 10 01111=0100,001=111,11101=0", "2 10 000=111,10=0011", "2 12 00=,11=,010101=", "4 2 01=,10=,23=,32=",
        "1 7 0=00000,000000=00000", "3 8 100=1012,0=1212,2="
    };
    private static final int WORDS = 150;
    private static int wrong = 0;

    private static void due(String what, Object got, Object want) {
        if (!got.equals(want)) {
            wrong++;
            System.out.println(what + " is " + got + ", due is " + want);
        }
    }

    private static void put(LikeWords x, int slot, String s) {
        for (char c : s.toCharArray()) x.letter(c - '0');
        x.slot(slot);
    }

    private static String get(LikeWords x, int slot) {
        StringBuilder s = new StringBuilder();
        int many = x.length(slot);
        for (int i = 0; i < many; i++) s.append(x.at(slot, i));
        return s.toString();
    }

    private static String side(LikeWords x, int r, boolean left) {
        StringBuilder s = new StringBuilder();
        for (int sign = x.rule(r, left, 0); sign >= 0; sign = x.rule(r, left, s.length())) s.append(sign);
        return s.toString();
    }

    /** A new object for each STRING, as each is good for 512 calls. */
    private static LikeWords made(String set) {
        String[] parts = set.split(" ");
        LikeWords x = new LikeWords();
        x.letters(Integer.parseInt(parts[0]));
        for (String law : parts[2].split(",")) {
            String[] sides = law.split("=", -1);
            put(x, 0, sides[0]);
            put(x, 1, sides[1]);
            x.law(0, 1);
        }
        x.see(Integer.parseInt(parts[1]));
        return x;
    }

    private static String reduced(List<String[]> rules, String s) {
        String now = s;
        int end = 1;
        while (end <= now.length()) {
            String[] best = null;
            for (String[] rule : rules) {
                boolean ends = now.startsWith(rule[0], end - rule[0].length());
                if (ends && (best == null || rule[0].length() > best[0].length())) best = rule;
            }
            if (best == null) {
                end++;
                continue;
            }
            int kept = end - best[0].length();
            now = now.substring(0, kept) + best[1] + now.substring(end);
            end = kept + 1;
        }
        return now;
    }

    private static String word(Random random, int n) {
        StringBuilder s = new StringBuilder();
        int many = random.nextInt(61);
        boolean inRows = random.nextBoolean();
        while (s.length() < many) {
            int l = random.nextInt(n);
            int row = inRows ? 1 + random.nextInt(15) : 1;
            for (int i = 0; i < row && s.length() < many; i++) s.append(l);
        }
        return s.toString();
    }

    private static void lookAt(String set) {
        LikeWords first = made(set);
        due("closed() of " + set, first.closed(), 1);
        List<String[]> rules = new ArrayList<>();
        for (int r = 0; r < first.total(2); r++) rules.add(new String[] {side(first, r, true), side(first, r, false)});
        Random random = new Random(18);
        for (int i = 0; i < WORDS; i++) {
            LikeWords x = made(set);
            String s = word(random, x.total(0));
            String want = reduced(rules, s);
            put(x, 0, s);
            due("reduce() of " + s + " under " + set, x.reduce(0, 1), want.length());
            due("what " + s + " reduces to under " + set, get(x, 1), want);
        }
    }

    public static void main(String[] args) {
        for (String set : SETS) lookAt(set);
        System.out.println(SETS.length * WORDS + " words: " + (wrong == 0 ? "all answers are as due" : wrong + " are not as due"));
        if (wrong != 0) System.exit(1);
    }
}
