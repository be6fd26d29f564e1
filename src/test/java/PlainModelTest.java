import java.util.ArrayDeque;
import java.util.ArrayList;
import java.util.HashMap;
import java.util.LinkedHashSet;
import java.util.List;
import java.util.Map;
import java.util.Random;
import java.util.TreeSet;

/** Runs of calls, made by a fixed seed, on LikeWords and on a slow model that does as the document's words say. */
public final class PlainModelTest {
    private static final int UNKNOWN = -1, OUTSIDE = -2, STATE = -3, FULL = -4, NONE = -9;
    private static int wrong = 0;

    private static int inOrder(String a, String b) {
        return a.length() != b.length() ? Integer.compare(a.length(), b.length()) : a.compareTo(b);
    }

    /** The document, word for word, on Strings of the characters 0 .. 3. */
    private static final class Plain {
        int n = 2;
        String string = "";
        final String[] slots = {"", "", "", "", "", "", "", ""};
        final List<String[]> laws = new ArrayList<>();
        int seenTo = NONE;
        Map<String, String> least = new HashMap<>();
        int leastCount;
        List<String> lefts = new ArrayList<>();
        List<String> rights = new ArrayList<>();
        boolean closed;
        List<String> states = new ArrayList<>();
        Map<String, Long> waysKnown = new HashMap<>();

        boolean slotIs(int k) {
            return k >= 0 && k < 8;
        }

        int letters(int m) {
            if (m < 1 || m > 4) return OUTSIDE;
            int before = n;
            n = m;
            string = "";
            for (int i = 0; i < 8; i++) slots[i] = "";
            laws.clear();
            seenTo = NONE;
            return before;
        }

        int letter(int l) {
            if (l < 0 || l >= n) return UNKNOWN;
            if (string.length() == 60) return FULL;
            string += (char) ('0' + l);
            return string.length();
        }

        int clear() {
            int before = string.length();
            string = "";
            return before;
        }

        int slot(int k) {
            if (!slotIs(k)) return UNKNOWN;
            slots[k] = string;
            string = "";
            return slots[k].length();
        }

        int at(int k, int i) {
            if (!slotIs(k)) return UNKNOWN;
            return i < 0 || i >= slots[k].length() ? NONE : slots[k].charAt(i) - '0';
        }

        int length(int k) {
            return slotIs(k) ? slots[k].length() : UNKNOWN;
        }

        int law(int a, int b) {
            if (!slotIs(a) || !slotIs(b)) return UNKNOWN;
            if (slots[a].length() > 12 || slots[b].length() > 12) return STATE;
            if (laws.size() == 8) return FULL;
            laws.add(new String[] {slots[a], slots[b]});
            seenTo = NONE;
            return laws.size();
        }

        int free() {
            int before = laws.size();
            laws.clear();
            seenTo = NONE;
            return before;
        }

        void steps(String from, String side, String by, int m, List<String> found) {
            for (int i = 0; i + side.length() <= from.length(); i++) {
                if (from.startsWith(side, i)) {
                    String to = from.substring(0, i) + by + from.substring(i + side.length());
                    if (to.length() <= m) found.add(to);
                }
            }
        }

        int see(int m) {
            if (m < 1 || m > 20) return OUTSIDE;
            long many = 0;
            long power = 1;
            for (int k = 0; k <= m; k++, power *= n) many += power;
            if (many > 10000) return OUTSIDE;
            seenTo = NONE;
            List<String> all = new ArrayList<>();
            all.add("");
            for (int i = 0; i < all.size(); i++) {
                if (all.get(i).length() == m) continue;
                for (int l = 0; l < n; l++) all.add(all.get(i) + l);
            }
            least = new HashMap<>();
            leastCount = 0;
            for (String start : all) {
                if (least.containsKey(start)) continue;
                leastCount++;
                least.put(start, start);
                ArrayDeque<String> open = new ArrayDeque<>();
                open.add(start);
                while (!open.isEmpty()) {
                    String from = open.poll();
                    List<String> found = new ArrayList<>();
                    for (String[] law : laws) {
                        steps(from, law[0], law[1], m, found);
                        steps(from, law[1], law[0], m, found);
                    }
                    for (String to : found) {
                        if (!least.containsKey(to)) {
                            least.put(to, start);
                            open.add(to);
                        }
                    }
                }
            }
            lefts = new ArrayList<>();
            rights = new ArrayList<>();
            for (String s : all) {
                if (isLeast(s) || !isLeast(s.substring(1)) || !isLeast(s.substring(0, s.length() - 1))) continue;
                lefts.add(s);
                rights.add(least.get(s));
            }
            if (lefts.size() > 40) return FULL;
            seenTo = m;
            closed = areClosed();
            TreeSet<String> begun = new TreeSet<>(PlainModelTest::inOrder);
            begun.add("");
            for (String left : lefts) {
                for (int k = 0; k < left.length(); k++) begun.add(left.substring(0, k));
            }
            states = new ArrayList<>(begun);
            waysKnown = new HashMap<>();
            return lefts.size();
        }

        boolean isLeast(String s) {
            return least.get(s).equals(s);
        }

        String reduced(String s) {
            String now = s;
            boolean found = true;
            while (found) {
                found = false;
                for (int end = 1; end <= now.length() && !found; end++) {
                    int best = -1;
                    for (int r = 0; r < lefts.size(); r++) {
                        if (now.substring(0, end).endsWith(lefts.get(r))
                                && (best < 0 || lefts.get(r).length() > lefts.get(best).length())) best = r;
                    }
                    if (best >= 0) {
                        now = now.substring(0, end - lefts.get(best).length()) + rights.get(best) + now.substring(end);
                        found = true;
                    }
                }
            }
            return now;
        }

        boolean areClosed() {
            for (String[] law : laws) {
                if (!reduced(law[0]).equals(reduced(law[1]))) return false;
            }
            for (int r = 0; r < lefts.size(); r++) {
                for (int q = 0; q < lefts.size(); q++) {
                    String a = lefts.get(r);
                    String b = lefts.get(q);
                    for (int v = 1; v < a.length() && v < b.length(); v++) {
                        if (!a.endsWith(b.substring(0, v))) continue;
                        String one = rights.get(r) + b.substring(v);
                        String other = a.substring(0, a.length() - v) + rights.get(q);
                        if (!reduced(one).equals(reduced(other))) return false;
                    }
                    for (int i = 0; r != q && i + b.length() <= a.length(); i++) {
                        if (!a.startsWith(b, i)) continue;
                        String other = a.substring(0, i) + rights.get(q) + a.substring(i + b.length());
                        if (!reduced(rights.get(r)).equals(reduced(other))) return false;
                    }
                }
            }
            return true;
        }

        int seen() {
            return seenTo;
        }

        int least() {
            return seenTo == NONE ? STATE : leastCount;
        }

        int rule(int r, boolean left, int i) {
            if (seenTo == NONE) return STATE;
            if (r < 0 || r >= lefts.size()) return UNKNOWN;
            String side = left ? lefts.get(r) : rights.get(r);
            return i < 0 || i >= side.length() ? NONE : side.charAt(i) - '0';
        }

        int closed() {
            return seenTo == NONE ? STATE : closed ? 1 : 0;
        }

        String lowest(String s) {
            if (seenTo == NONE || !closed && s.length() > seenTo) return null;
            return closed ? reduced(s) : least.get(s);
        }

        int reduce(int a, int c) {
            if (!slotIs(a) || !slotIs(c)) return UNKNOWN;
            String s = lowest(slots[a]);
            if (s == null) return STATE;
            slots[c] = s;
            return s.length();
        }

        int like(int a, int b) {
            if (!slotIs(a) || !slotIs(b)) return UNKNOWN;
            String s = lowest(slots[a]);
            String t = lowest(slots[b]);
            if (s == null || t == null) return STATE;
            return s.equals(t) ? 1 : 0;
        }

        boolean works() {
            return seenTo != NONE && closed;
        }

        int states() {
            return works() ? states.size() : STATE;
        }

        String next(String state, int l) {
            String both = state + l;
            for (String left : lefts) {
                if (both.endsWith(left)) return null;
            }
            String best = "";
            for (String s : states) {
                if (both.endsWith(s)) best = s;
            }
            return best;
        }

        int leads(int state, int l) {
            if (!works()) return STATE;
            if (state < 0 || state >= states.size() || l < 0 || l >= n) return UNKNOWN;
            String to = next(states.get(state), l);
            return to == null ? NONE : states.indexOf(to);
        }

        long ways(String state, int m) {
            if (m == 0) return 1;
            String key = state + "/" + m;
            Long known = waysKnown.get(key);
            if (known != null) return known;
            long many = 0;
            for (int l = 0; l < n; l++) {
                String to = next(state, l);
                if (to != null) many += ways(to, m - 1);
            }
            waysKnown.put(key, many);
            return many;
        }

        long count(int m) {
            if (m < 0 || m > 30) return OUTSIDE;
            return works() ? ways("", m) : STATE;
        }

        long size() {
            if (!works()) return STATE;
            TreeSet<String> now = new TreeSet<>();
            now.add("");
            for (int k = 0; k <= states.size(); k++) {
                TreeSet<String> then = new TreeSet<>();
                for (String s : now) {
                    for (int l = 0; l < n; l++) {
                        String to = next(s, l);
                        if (to != null) then.add(to);
                    }
                }
                now = then;
            }
            if (!now.isEmpty()) return NONE;
            if (ways("", 31) > 0) return FULL;
            long many = 0;
            for (int m = 0; m <= 30; m++) many += ways("", m);
            return many;
        }

        /** LEAST STRINGS in ORDER, up to a number of them, by looking for LEFT sides and nothing else. */
        List<String> leastOnes(int most) {
            List<String> found = new ArrayList<>();
            found.add("");
            for (int i = 0; i < found.size(); i++) {
                for (int l = 0; l < n; l++) {
                    String s = found.get(i) + l;
                    boolean free = true;
                    for (String left : lefts) free &= !s.endsWith(left);
                    if (free && found.size() < most) found.add(s);
                }
                if (found.size() == most || found.get(i).length() == 30) break;
            }
            while (found.get(found.size() - 1).length() > 30) found.remove(found.size() - 1);
            return found;
        }

        int nth(long i, int k) {
            if (!slotIs(k)) return UNKNOWN;
            if (i < 0) return OUTSIDE;
            if (!works()) return STATE;
            if (i < 3000) {
                List<String> ones = leastOnes((int) i + 1);
                if (ones.size() <= i) return NONE;
                slots[k] = ones.get((int) i);
                return slots[k].length();
            }
            long left = i;
            for (int m = 0; m <= 30; m++) {
                if (left >= ways("", m)) {
                    left -= ways("", m);
                    continue;
                }
                String s = "";
                String state = "";
                while (s.length() < m) {
                    for (int l = 0; l < n; l++) {
                        String to = next(state, l);
                        long many = to == null ? 0 : ways(to, m - s.length() - 1);
                        if (left < many) {
                            s += l;
                            state = to;
                            break;
                        }
                        left -= many;
                    }
                }
                slots[k] = s;
                return m;
            }
            return NONE;
        }

        long rank(int k) {
            if (!slotIs(k)) return UNKNOWN;
            if (!works()) return STATE;
            String s = reduced(slots[k]);
            if (s.length() > 30) return FULL;
            long number = 0;
            for (int m = 0; m < s.length(); m++) number += ways("", m);
            String state = "";
            for (int i = 0; i < s.length(); i++) {
                for (int l = 0; l < s.charAt(i) - '0'; l++) {
                    String to = next(state, l);
                    if (to != null) number += ways(to, s.length() - i - 1);
                }
                state = next(state, s.charAt(i) - '0');
            }
            return number;
        }

        int power(int a, int k, int c) {
            if (!slotIs(a) || !slotIs(c)) return UNKNOWN;
            if (k < 0 || k > 100) return OUTSIDE;
            if (!works()) return STATE;
            String one = reduced(slots[a]);
            String s = "";
            for (int i = 0; i < k; i++) {
                if ((s + one).length() > 60) return FULL;
                s = reduced(s + one);
            }
            slots[c] = s;
            return s.length();
        }

        int order(int a) {
            if (!slotIs(a)) return UNKNOWN;
            if (!works()) return STATE;
            String one = reduced(slots[a]);
            String s = "";
            for (int k = 1; k <= 100; k++) {
                if ((s + one).length() > 60) return FULL;
                s = reduced(s + one);
                if (s.isEmpty()) return k;
            }
            return NONE;
        }

        int inverse(int a, int c) {
            if (!slotIs(a) || !slotIs(c)) return UNKNOWN;
            if (!works()) return STATE;
            String one = reduced(slots[a]);
            for (String s : leastOnes(2000)) {
                if ((one + s).length() > 60) return FULL;
                if (reduced(one + s).isEmpty()) {
                    slots[c] = s;
                    return s.length();
                }
            }
            return NONE;
        }

        int makes(int a, int b) {
            if (!slotIs(a) || !slotIs(b)) return UNKNOWN;
            if (!works()) return STATE;
            LinkedHashSet<String> made = new LinkedHashSet<>();
            ArrayDeque<String> open = new ArrayDeque<>();
            made.add("");
            open.add("");
            while (!open.isEmpty()) {
                String s = open.poll();
                for (int k : new int[] {a, b}) {
                    String both = s + reduced(slots[k]);
                    if (both.length() > 60) return FULL;
                    String to = reduced(both);
                    if (made.add(to)) open.add(to);
                    if (made.size() > 300) return FULL;
                }
            }
            return made.size();
        }

        int total(int what) {
            switch (what) {
                case 0: return n;
                case 1: return laws.size();
                case 2: return seenTo == NONE ? 0 : lefts.size();
                case 3: return string.length();
                default: return OUTSIDE;
            }
        }
    }

    /** Sets of laws whose RULES close, or are near to it: sides are parted by =, laws by commas. */
    private static final String[] KNOWN = {
        "2 00=,11=,010101=", "2 00=,111=", "2 000=,11=,0101=", "2 00=,11=", "2 01=10", "2 01=", "2 00=0,11=1",
        "2 00=0,11=1,010=0", "2 0000=,11=00,010=1", "2 000=0,11=1,01=10", "2 00=,111=,0101=", "2 001=10",
        "2 0000=,1111=,01=10", "2 00000=,11=,0101=", "2 010=101", "2 00=11", "2 0101=,00=", "2 111111=,0=",
        "1 00000=", "1 0000000=00", "1 0=", "1 00000000=,000000000000=", "1 00000000000=0000", "1 =",
        "1 000=00,00000=0000", "3 00=,11=,22=,20=02,010=101", "3 01=,10=,22=", "3 00=,11=,22=",
        "3 012=,00=", "3 01=10,02=20,12=21", "3 000=,111=,222=,01=10,12=21,02=20", "3 01=2,12=0,20=1", "3 01=1,10=0",
        "4 01=,10=,23=,32=", "4 00=,11=,22=,33=", "4 01=10,23=32", "4 0=1,2=3", "4 00=0,01=0,02=0,03=0,10=0,20=0,30=0",
        "4 01=2,12=3,23=0,30=1", "4 00=,11=,22=,33=,01=10,02=20,12=21,03=30",
        "2 000000=,111111=,01=10", "2 00000000=0000,1111=11,01=10", "2 0000000=0,11=0", "3 00=0,11=1,22=2,01=1,10=0",
        "2 00=,11=,0101010101=1010101010", "2 000000000000=,1=", "2 0110=,1=0000", "2 00=,01=1,11=0",
        "2 010=011,000000000000=0,0011=0110,11111111111=1", "2 010=011,00000000000=0,0011=0110,11111111111=1",
        "2 000000000000=,111111111=1,100=001,1011=1101,1010=0101", "2 01=101,0000000=00,1111111=11",
        "2 0000000000=1,1111111111=", "2 0000000000=0,1=101111,1110=0101,100111=00001", "2 000000=1",
        // LEFT sides within others:
        "1 0=00000,000000=00000", "1 0=000,0000=000,000=", "2 001=0,011011=0011", "2 101111=011001,00=110",
        "2 110=101,10=0011", "3 21=0,02=02011,10=2", "2 1111=,0110=1110,11=100111", "3 2122=,0011=000022,2021=1200",
        "2 110=,110=0", "2 011=,011=0", "2 101=,101=0", "3 222=,212=", "3 012=,22=2", "2 11=1,001="
    };

    private static String word(Random random, int n, int most) {
        StringBuilder s = new StringBuilder();
        int many = random.nextInt(most + 1);
        for (int i = 0; i < many; i++) s.append(random.nextInt(n));
        return s.toString();
    }

    private static final class Pair {
        final LikeWords x = new LikeWords();
        final Plain p = new Plain();
        final StringBuilder said = new StringBuilder();
        final Random random;
        boolean isRight = true;

        Pair(Random random) {
            this.random = random;
        }

        void due(String call, long got, long want) {
            said.append(' ').append(call).append('=').append(got);
            if (got != want && isRight) {
                isRight = false;
                wrong++;
                System.out.println(call + " answered " + got + ", due is " + want + ", after" + said);
            }
        }

        void collect(String s, int k) {
            due("clear()", x.clear(), p.clear());
            for (int i = 0; i < s.length(); i++) {
                int l = s.charAt(i) - '0';
                due("letter(" + l + ")", x.letter(l), p.letter(l));
            }
            due("slot(" + k + ")", x.slot(k), p.slot(k));
        }

        void addLaws(String text) {
            for (String law : text.split(",")) {
                String[] sides = law.split("=", -1);
                collect(sides[0], 6);
                collect(sides[1], 7);
                due("law(6, 7)", x.law(6, 7), p.law(6, 7));
            }
        }

        void addRandomLaws() {
            int many = random.nextInt(4);
            int most = any(3, 6);
            for (int i = 0; i < many; i++) {
                collect(word(random, p.n, most), 6);
                collect(word(random, p.n, most), 7);
                due("law(6, 7)", x.law(6, 7), p.law(6, 7));
            }
        }

        int any(int low, int high) {
            return low + random.nextInt(high - low + 1);
        }

        int anySlot() {
            return random.nextInt(25) == 0 ? (random.nextBoolean() ? 8 : -1) : random.nextInt(8);
        }

        long anyNumber() {
            int kind = random.nextInt(10);
            return kind == 0 ? -1 - random.nextInt(3)
                    : kind == 1 ? random.nextLong() >>> 1
                    : kind < 4 ? (random.nextLong() >>> 1) % 100000000L
                    : kind < 6 ? random.nextInt(2500) : random.nextInt(60);
        }

        void look() {
            int a = anySlot();
            int b = anySlot();
            int c = anySlot();
            int k = any(-1, 12);
            switch (random.nextInt(26)) {
                case 0: collect(word(random, p.n, random.nextInt(4) == 0 ? 60 : 9), random.nextInt(8)); break;
                case 1: due("at(" + a + ", " + k + ")", x.at(a, k), p.at(a, k)); break;
                case 2: due("length(" + a + ")", x.length(a), p.length(a)); break;
                case 3: due("seen()", x.seen(), p.seen()); break;
                case 4: due("least()", x.least(), p.least()); break;
                case 5: case 6: {
                    int r = any(-1, Math.max(0, p.lefts.size()));
                    boolean left = random.nextBoolean();
                    due("rule(" + r + ", " + left + ", " + k + ")", x.rule(r, left, k), p.rule(r, left, k));
                    break;
                }
                case 7: due("closed()", x.closed(), p.closed()); break;
                case 8: case 9: due("reduce(" + a + ", " + c + ")", x.reduce(a, c), p.reduce(a, c)); break;
                case 10: due("like(" + a + ", " + b + ")", x.like(a, b), p.like(a, b)); break;
                case 11: due("states()", x.states(), p.states()); break;
                case 12: case 13: {
                    int s = any(-1, p.states.size());
                    int l = any(-1, p.n);
                    due("leads(" + s + ", " + l + ")", x.leads(s, l), p.leads(s, l));
                    break;
                }
                case 14: {
                    int m = any(-1, 31);
                    due("count(" + m + ")", x.count(m), p.count(m));
                    break;
                }
                case 15: due("size()", x.size(), p.size()); break;
                case 16: case 17: {
                    long i = anyNumber();
                    due("nth(" + i + ", " + a + ")", x.nth(i, a), p.nth(i, a));
                    break;
                }
                case 18: due("rank(" + a + ")", x.rank(a), p.rank(a)); break;
                case 19: case 20: {
                    int times = random.nextInt(3) == 0 ? any(-1, 101) : any(0, 6);
                    due("power(" + a + ", " + times + ", " + c + ")", x.power(a, times, c), p.power(a, times, c));
                    break;
                }
                case 21: due("order(" + a + ")", x.order(a), p.order(a)); break;
                case 22: due("inverse(" + a + ", " + c + ")", x.inverse(a, c), p.inverse(a, c)); break;
                case 23: due("makes(" + a + ", " + b + ")", x.makes(a, b), p.makes(a, b)); break;
                case 24: due("total(" + k + ")", x.total(k), p.total(k)); break;
                default: {
                    int l = any(-1, p.n);
                    due("letter(" + l + ")", x.letter(l), p.letter(l));
                }
            }
        }

        void compareSlots() {
            for (int k = 0; k < 8; k++) {
                StringBuilder s = new StringBuilder();
                for (int i = 0; i < x.length(k) && x.at(k, i) >= 0; i++) s.append(x.at(k, i));
                if (!s.toString().equals(p.slots[k])) due("the STRING of SLOT " + k + " is " + s, 0, 1);
            }
        }

        void compareRules() {
            for (int r = 0; r < p.lefts.size() && p.seenTo != NONE; r++) {
                for (int i = -1; i <= p.lefts.get(r).length(); i++) {
                    due("rule(" + r + ", true, " + i + ")", x.rule(r, true, i), p.rule(r, true, i));
                    due("rule(" + r + ", false, " + i + ")", x.rule(r, false, i), p.rule(r, false, i));
                }
            }
            for (int s = 0; s < p.states.size() && p.works(); s++) {
                for (int l = 0; l < p.n; l++) {
                    due("leads(" + s + ", " + l + ")", x.leads(s, l), p.leads(s, l));
                }
            }
        }

        void see(int m) {
            due("see(" + m + ")", x.see(m), p.see(m));
            due("closed()", x.closed(), p.closed());
            due("least()", x.least(), p.least());
            compareRules();
        }
    }

    private static int longest(int n) {
        return n == 1 ? 20 : n == 2 ? 12 : n == 3 ? 8 : 6;
    }

    private static int closedOnes = 0;
    private static int openOnes = 0;

    private static void oneRun(int seed) {
        Random random = new Random(seed);
        Pair pair = new Pair(random);
        String known = KNOWN[random.nextInt(KNOWN.length)];
        boolean isKnown = random.nextInt(3) > 0;
        int n = isKnown ? known.charAt(0) - '0' : pair.any(0, 5);
        pair.due("letters(" + n + ")", pair.x.letters(n), pair.p.letters(n));
        if (isKnown) {
            pair.addLaws(known.substring(2));
        }
        if (!isKnown || random.nextInt(4) == 0) {
            pair.addRandomLaws();
        }
        int top = longest(pair.p.n);
        for (int part = 0; part < 2 && pair.isRight; part++) {
            pair.see(random.nextInt(3) == 0 ? pair.any(0, top + 1) : pair.any(top - 3, top));
            if (pair.p.works()) closedOnes++; else openOnes++;
            for (int i = 0; i < 60 && pair.isRight; i++) pair.look();
            pair.compareSlots();
            int change = random.nextInt(6);
            if (change == 0) pair.due("free()", pair.x.free(), pair.p.free());
            if (change == 1) pair.addRandomLaws();
            if (change == 2) pair.due("see(0)", pair.x.see(0), pair.p.see(0));
            for (int i = 0; i < 10 && pair.isRight; i++) pair.look();
        }
    }

    public static void main(String[] args) {
        int from = args.length > 0 ? Integer.parseInt(args[0]) : 0;
        int to = args.length > 1 ? Integer.parseInt(args[1]) : 300;
        for (int seed = from; seed < to; seed++) oneRun(seed);
        System.out.println((to - from) + " runs beside the plain model, " + closedOnes + " times closed, " + openOnes
                + " not: " + (wrong == 0 ? "all answers are as due" : wrong + " are not as due"));
        if (wrong != 0) System.exit(1);
    }
}
