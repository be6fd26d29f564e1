import java.nio.file.Files;
import java.nio.file.Path;
import java.util.LinkedHashMap;
import java.util.Map;
import java.util.function.Supplier;

/**
 * Each sentence of the document that names an edge (too small, too large, empty, full, beyond what a number holds,
 * refused), in the document's own words, with a test of its own. The promises must be quoted to their last word: a
 * part of the document that no test stands for is told, and so is a quotation that the document does not have.
 */
public final class EdgesTest {
    private static final int UNKNOWN = -1, OUTSIDE = -2, STATE = -3, FULL = -4, NONE = -9;
    private static final int MIN = Integer.MIN_VALUE, MAX = Integer.MAX_VALUE;
    private static final int[] NO_SLOTS = {-1, 8, MIN, MAX};
    private static final String USE = "What it is", TERMS = "Terms";

    /** Of the group of six: to 12 the RULES are CLOSED, to 8 they are not. */
    private static final String SIX = "00=,11=,010101=";
    /** There are two LEAST STRINGS of each length; those that begin and end alike undo themselves. */
    private static final String MIRRORS = "00=,11=";
    /** LEAST STRINGS are rows of 0 alone, or at most ten of them ahead of ones; a 1 undoes eleven of them. */
    private static final String ELEVEN = "10=01,000000000001=";
    private static final String LONGEST_THIRTY = "010=011,00000000000=0,0011=0110,11111111111=1";
    private static final String LONGEST_THIRTY_ONE = "010=011,000000000000=0,0011=0110,11111111111=1";
    private static final String[] NO_TWO_ZEROS = {
        "", "0", "1", "01", "10", "11", "010", "011", "101", "110", "111", "0101", "0110", "0111", "1010", "1011", "1101"
    };
    private static final String FORTY_RULES = "01000=0001,1100=1011,11110=01101";
    private static final String FORTY_ONE_RULES = "0=1011,10001=11110";

    private static final Map<String, String> TEXTS = new LinkedHashMap<>();
    private static final Map<String, boolean[]> QUOTED = new LinkedHashMap<>();
    private static String heading = "";
    private static String sentence = "";
    private static int sentences = 0;
    private static int compared = 0;
    private static int wrong = 0;

    // ---- how a test tells what it is for

    interface Check {
        void run();
    }

    interface Call {
        long on(Words x);
    }

    private static void tell(String what) {
        wrong++;
        System.out.println(heading + ", \"" + sentence + "\": " + what);
    }

    private static void due(String call, long got, long want) {
        compared++;
        if (got != want) tell(call + " answered " + got + ", due is " + want);
    }

    private static void due(String what, String got, String want) {
        compared++;
        if (!got.equals(want)) tell(what + " is \"" + got + "\", due is \"" + want + "\"");
    }

    /** The sentence of a promise, and the test that stands for it. */
    private static void says(int promise, String quoted, Check check) {
        says("Promise " + promise, quoted, check);
    }

    private static void says(String where, String quoted, Check check) {
        heading = where;
        sentence = quoted;
        sentences++;
        quote();
        int before = compared;
        try {
            check.run();
        } catch (RuntimeException | StackOverflowError thrown) {
            tell("threw " + thrown);
        }
        if (compared == before) tell("nothing is compared");
    }

    /** A part of the document in which there is nothing to test. */
    private static void tellsNoMore(String where, String quoted) {
        heading = where;
        sentence = quoted;
        quote();
    }

    // ---- what of the document is quoted

    private static void readDocument() throws Exception {
        Path path = Path.of("../shared/DOC.md");
        if (!Files.exists(path)) {
            System.out.println("the document is not there, so what is quoted is not looked at");
            return;
        }
        String now = "";
        for (String line : Files.readString(path).split("\n")) {
            if (line.startsWith("## ")) {
                now = line.substring(3).replaceAll("^(Promise \\d+):.*", "$1");
                TEXTS.put(now, "");
            } else if (!line.startsWith("```")) {
                TEXTS.merge(now, line, (a, b) -> (a + " " + b).replaceAll("\\s+", " ").trim());
            }
        }
        for (String where : TEXTS.keySet()) {
            TEXTS.put(where, TEXTS.get(where).replaceFirst("^`[^`]*`: ", ""));
            QUOTED.put(where, new boolean[TEXTS.get(where).length()]);
        }
    }

    private static void quote() {
        if (TEXTS.isEmpty()) return;
        String text = TEXTS.getOrDefault(heading, "");
        boolean[] quoted = QUOTED.getOrDefault(heading, new boolean[0]);
        int at = text.indexOf(sentence);
        while (at >= 0 && quoted[at] && text.indexOf(sentence, at + 1) >= 0) at = text.indexOf(sentence, at + 1);
        if (at < 0) {
            tell("the document has no such words there");
            return;
        }
        for (int i = at; i < at + sentence.length(); i++) quoted[i] = true;
    }

    private static void tellWhatIsNotQuoted(String where) {
        if (TEXTS.isEmpty()) return;
        heading = where;
        String text = TEXTS.getOrDefault(where, "");
        if (text.isEmpty()) {
            sentence = "";
            tell("the document has no such heading");
        }
        StringBuilder open = new StringBuilder();
        for (int i = 0; i < text.length(); i++) {
            if (!QUOTED.get(where)[i] && text.charAt(i) != ' ') open.append(text.charAt(i));
            else if (open.length() > 0 && open.charAt(open.length() - 1) != ' ') open.append(' ');
        }
        sentence = open.toString().trim();
        if (!sentence.isEmpty()) tell("no test stands for these words");
    }

    // ---- the object under test

    /** An object whose calls are counted: what it answers to more than 512 is free, so no test may ask for it. */
    private static final class Words {
        private final LikeWords words = new LikeWords();
        private int calls = 0;

        private LikeWords next() {
            calls++;
            if (calls == 513) tell("the test makes more than 512 calls on one object");
            return words;
        }

        int letters(int n) { return next().letters(n); }
        int letter(int l) { return next().letter(l); }
        int clear() { return next().clear(); }
        int slot(int k) { return next().slot(k); }
        int at(int slot, int i) { return next().at(slot, i); }
        int length(int slot) { return next().length(slot); }
        int law(int a, int b) { return next().law(a, b); }
        int free() { return next().free(); }
        int see(int m) { return next().see(m); }
        int seen() { return next().seen(); }
        int least() { return next().least(); }
        int rule(int r, boolean left, int i) { return next().rule(r, left, i); }
        int closed() { return next().closed(); }
        int reduce(int a, int c) { return next().reduce(a, c); }
        int like(int a, int b) { return next().like(a, b); }
        int states() { return next().states(); }
        int leads(int state, int l) { return next().leads(state, l); }
        long count(int m) { return next().count(m); }
        long size() { return next().size(); }
        int nth(long i, int slot) { return next().nth(i, slot); }
        long rank(int slot) { return next().rank(slot); }
        int power(int a, int k, int c) { return next().power(a, k, c); }
        int order(int slot) { return next().order(slot); }
        int inverse(int a, int c) { return next().inverse(a, c); }
        int makes(int a, int b) { return next().makes(a, b); }
        int total(int what) { return next().total(what); }
    }

    /** THE STRING comes to be one that is written out. */
    private static Words collect(Words x, String s) {
        x.clear();
        for (int i = 0; i < s.length(); i++) x.letter(s.charAt(i) - '0');
        return x;
    }

    private static Words put(Words x, String s, int slot) {
        collect(x, s).slot(slot);
        return x;
    }

    private static String text(Words x, int slot) {
        StringBuilder s = new StringBuilder();
        int many = x.length(slot);
        for (int i = 0; i < many; i++) s.append(x.at(slot, i));
        return s.toString();
    }

    private static String side(Words x, int r, boolean left) {
        StringBuilder s = new StringBuilder();
        for (int i = 0; i <= 60; i++) {
            int sign = x.rule(r, left, i);
            if (sign < 0) break;
            s.append(sign);
        }
        return s.toString();
    }

    private static String rules(Words x) {
        StringBuilder s = new StringBuilder();
        int many = x.total(2);
        for (int r = 0; r < many; r++) {
            s.append(r > 0 ? "," : "").append(side(x, r, true)).append('>').append(side(x, r, false));
        }
        return s.toString();
    }

    /** A new object with LETTERS and LAWS, such as "00=,11=", nothing in SLOTS; SEEN to m, if that is above 0. */
    private static Words made(int n, String laws, int m) {
        Words x = new Words();
        if (n != 2) x.letters(n);
        for (String law : laws.isEmpty() ? new String[0] : laws.split(",")) {
            String[] sides = law.split("=", -1);
            put(x, sides[0], 0);
            put(x, sides[1], 1);
            x.law(0, 1);
        }
        x.slot(0);
        x.slot(1);
        if (m > 0) x.see(m);
        return x;
    }

    private static String times(String s, int k) {
        return s.repeat(k);
    }

    /** With STRINGS in some SLOTS, one of them of sixty LETTERS, and THE STRING of two. */
    private static Words filled(Words x) {
        put(x, "01", 1);
        put(x, "1010110", 2);
        put(x, times("01", 30), 3);
        return collect(x, "10");
    }

    private static Words notSeen() {
        return filled(made(2, SIX, 0));
    }

    private static Words notClosed() {
        return filled(made(2, SIX, 8));
    }

    private static Words closedOnes() {
        return filled(made(2, SIX, 12));
    }

    private static Words endless() {
        return filled(made(2, "", 2));
    }

    /** Eight LAWS, THE STRING of sixty, words SEEN. */
    private static Words full() {
        Words x = filled(made(2, SIX, 0));
        for (int i = 0; i < 5; i++) x.law(0, 0);
        x.see(12);
        return collect(x, times("10", 30));
    }

    /** All that can be seen of an object; THE STRING last, as it leaves its place then. */
    private static String look(Words x) {
        StringBuilder s = new StringBuilder();
        for (int what = 0; what < 4; what++) s.append(x.total(what)).append(' ');
        s.append(x.seen()).append(' ').append(x.least()).append(' ').append(x.closed()).append(' ').append(rules(x));
        int states = x.states();
        s.append(" states ").append(states);
        for (int state = 0; state < Math.min(states, 8); state++) s.append(' ').append(x.leads(state, 0));
        for (int m = 0; m < 4; m++) s.append(' ').append(x.count(m));
        s.append(' ').append(x.size());
        for (int k = 0; k < 8; k++) s.append(' ').append(k).append(':').append(text(x, k));
        x.slot(7);
        return s.append(" the string:").append(text(x, 7)).toString();
    }

    /** The call answers so, and all that can be seen is as if it had not been. */
    private static void stays(Supplier<Words> make, String call, Call made, long want) {
        Words x = make.get();
        due(call, made.on(x), want);
        due("what is there behind " + call, look(x), look(make.get()));
    }

    /** Nothing is SEEN any more, as far as the calls tell. */
    private static void dueNotSeen(Words x) {
        due("seen()", x.seen(), NONE);
        due("total(2)", x.total(2), 0);
        due("least()", x.least(), STATE);
        due("rule(0, true, 0)", x.rule(0, true, 0), STATE);
        due("closed()", x.closed(), STATE);
        due("reduce(0, 0)", x.reduce(0, 0), STATE);
        due("like(0, 0)", x.like(0, 0), STATE);
        dueNoMachine(x);
    }

    private static void dueNoMachine(Words x) {
        due("states()", x.states(), STATE);
        due("leads(0, 0)", x.leads(0, 0), STATE);
        due("count(0)", x.count(0), STATE);
        due("size()", x.size(), STATE);
        due("nth(0, 0)", x.nth(0, 0), STATE);
        due("rank(0)", x.rank(0), STATE);
        due("power(0, 0, 0)", x.power(0, 0, 0), STATE);
        due("order(0)", x.order(0), STATE);
        due("inverse(0, 0)", x.inverse(0, 0), STATE);
        due("makes(0, 0)", x.makes(0, 0), STATE);
    }

    /** A call with a SLOT that is not there, in each state; the calls of a row have it at another place each. */
    private static void dueUnknown(String name, Call... calls) {
        for (Call call : calls) {
            stays(EdgesTest::notSeen, name + " of no SLOT, nothing SEEN", call, UNKNOWN);
            stays(EdgesTest::notClosed, name + " of no SLOT, not CLOSED", call, UNKNOWN);
            stays(EdgesTest::closedOnes, name + " of no SLOT", call, UNKNOWN);
            stays(EdgesTest::full, name + " of no SLOT, all full", call, UNKNOWN);
        }
    }

    /** STATE where nothing is SEEN, and where the RULES are not CLOSED. */
    private static void dueState(String name, Call call) {
        stays(EdgesTest::notSeen, name + ", nothing SEEN", call, STATE);
        stays(EdgesTest::notClosed, name + ", not CLOSED", call, STATE);
    }

    // ---- what it is

    private static void use() {
        tellsNoMore(USE, TEXTS.isEmpty() ? "" : TEXTS.get(USE).replaceFirst(" An object is used.*", ""));
        says(USE, "An object is used for at most 512 calls after it has been made; what later calls answer is free.", () -> {
            Words x = made(2, MIRRORS, 12);
            put(x, times("01", 15), 1);
            while (x.calls < 507) {
                due("inverse(1, 2), call " + (x.calls + 1), x.inverse(1, 2), 30);
                due("see(12), call " + (x.calls + 1), x.see(12), 2);
            }
            due("rank(1)", x.rank(1), 59);
            due("nth(59, 3)", x.nth(59, 3), 30);
            due("like(1, 3)", x.like(1, 3), 1);
            while (x.calls < 511) x.total(0);
            due("the 512th call, at(2, 0)", x.at(2, 0), 1);
        });
    }

    // ---- terms

    private static void refusals() {
        says(TERMS, "REFUSALS, of several the first that a call names:", EdgesTest::firstNamed);
        says(TERMS, "UNKNOWN (there is no such LETTER, SLOT, RULE, STATE),", () -> {
            Words x = closedOnes();
            due("letter(2)", x.letter(2), UNKNOWN);
            due("slot(8)", x.slot(8), UNKNOWN);
            due("rule(3, true, 0)", x.rule(3, true, 0), UNKNOWN);
            due("leads(4, 0)", x.leads(4, 0), UNKNOWN);
            due("leads(0, 2)", x.leads(0, 2), UNKNOWN);
        });
        says(TERMS, "OUTSIDE (another number is not as told),", () -> {
            Words x = closedOnes();
            due("letters(5)", x.letters(5), OUTSIDE);
            due("see(13)", x.see(13), OUTSIDE);
            due("count(31)", x.count(31), OUTSIDE);
            due("nth(-1, 0)", x.nth(-1, 0), OUTSIDE);
            due("power(0, 101, 0)", x.power(0, 101, 0), OUTSIDE);
            due("total(4)", x.total(4), OUTSIDE);
        });
        says(TERMS, "STATE (as told),", () -> {
            due("law(3, 0)", closedOnes().law(3, 0), STATE);
            due("least()", notSeen().least(), STATE);
            due("reduce(3, 0)", notClosed().reduce(3, 0), STATE);
        });
        says(TERMS, "FULL.", () -> {
            due("letter(0)", full().letter(0), FULL);
            due("law(0, 0)", full().law(0, 0), FULL);
            due("see(12)", made(2, FORTY_ONE_RULES, 0).see(12), FULL);
            due("size()", made(2, LONGEST_THIRTY_ONE, 12).size(), FULL);
            due("rank(3)", endless().rank(3), FULL);
        });
        says(TERMS, "What is refused changes nothing.", EdgesTest::refusedChangesNothing);
        says(TERMS, "NONE is -9.", () -> {
            due("NONE", LikeWords.NONE, -9);
            due("UNKNOWN", LikeWords.UNKNOWN, -1);
            due("OUTSIDE", LikeWords.OUTSIDE, -2);
            due("STATE", LikeWords.STATE, -3);
            due("FULL", LikeWords.FULL, -4);
            due("seen()", new Words().seen(), -9);
        });
        says(TERMS, "Numbers told as longs may be beyond ints;", () -> {
            Words x = made(4, "", 1);
            due("count(15)", x.count(15), 1L << 30);
            due("count(16)", x.count(16), 1L << 32);
            due("count(30)", x.count(30), 1L << 60);
            // As an int the number would be 0, and below that one below 0.
            due("nth(2^32, 0)", x.nth(1L << 32, 0), 16);
            due("rank(0)", x.rank(0), 1L << 32);
            due("nth(2^32 - 1, 0)", x.nth((1L << 32) - 1, 0), 16);
            due("nth(2^31, 0)", x.nth(1L << 31, 0), 16);
            due("nth(2^31 - 1, 0)", x.nth((1L << 31) - 1, 0), 16);
            due("rank(0)", x.rank(0), (1L << 31) - 1);
            Words six = closedOnes();
            due("nth(2^32, 0) of six", six.nth(1L << 32, 0), NONE);
            due("nth(2^63 - 1, 0) of six", six.nth(Long.MAX_VALUE, 0), NONE);
            due("nth(-2^32, 0) of six", six.nth(-(1L << 32), 0), OUTSIDE);
            due("nth(-2^63, 0) of six", six.nth(Long.MIN_VALUE, 0), OUTSIDE);
        });
        says(TERMS, "refusals are told likewise.", () -> {
            due("count(31)", made(2, "", 1).count(31), -2L);
            due("count(0)", new Words().count(0), -3L);
            due("size()", new Words().size(), -3L);
            due("size(), all", made(2, "", 1).size(), -9L);
            due("size(), thirty-one", made(2, LONGEST_THIRTY_ONE, 12).size(), -4L);
            due("rank(8)", new Words().rank(8), -1L);
            due("rank(0)", new Words().rank(0), -3L);
            due("rank(3)", endless().rank(3), -4L);
        });
    }

    private static void firstNamed() {
        Words x = full();
        due("letter(2), no room", x.letter(2), UNKNOWN);
        due("law(3, 8), too long", x.law(3, 8), UNKNOWN);
        due("law(8, 3), too long", x.law(8, 3), UNKNOWN);
        due("law(0, 8), no room", x.law(0, 8), UNKNOWN);
        due("law(3, 0), no room", x.law(3, 0), STATE);
        due("law(0, 3), no room", x.law(0, 3), STATE);
        Words many = made(2, FORTY_ONE_RULES, 0);
        due("see(13), too many RULES", many.see(13), OUTSIDE);
        due("see(0), too many RULES", many.see(0), OUTSIDE);
        Words y = notSeen();
        due("rule(-1, true, 0), nothing SEEN", y.rule(-1, true, 0), STATE);
        due("leads(-1, -1), nothing SEEN", y.leads(-1, -1), STATE);
        Words z = notClosed();
        for (Words w : new Words[] {y, z}) {
            due("reduce(3, 8), STATE too", w.reduce(3, 8), UNKNOWN);
            due("reduce(8, 3), STATE too", w.reduce(8, 3), UNKNOWN);
            due("like(8, 3), STATE too", w.like(8, 3), UNKNOWN);
            due("like(3, 8), STATE too", w.like(3, 8), UNKNOWN);
            due("leads(9, 0), STATE too", w.leads(9, 0), STATE);
            due("leads(0, 9), STATE too", w.leads(0, 9), STATE);
            due("count(31), STATE too", w.count(31), OUTSIDE);
            due("nth(-1, 8), STATE too", w.nth(-1, 8), UNKNOWN);
            due("nth(0, 8), STATE too", w.nth(0, 8), UNKNOWN);
            due("nth(-1, 0), STATE too", w.nth(-1, 0), OUTSIDE);
            due("nth(MAX, 0), none such too", w.nth(Long.MAX_VALUE, 0), STATE);
            due("rank(8), STATE too", w.rank(8), UNKNOWN);
            due("power(8, 101, 0), STATE too", w.power(8, 101, 0), UNKNOWN);
            due("power(0, 101, 8), STATE too", w.power(0, 101, 8), UNKNOWN);
            due("power(0, 101, 0), STATE too", w.power(0, 101, 0), OUTSIDE);
            due("power(3, 2, 0), FULL too", w.power(3, 2, 0), STATE);
            due("order(8), STATE too", w.order(8), UNKNOWN);
            due("inverse(8, 0), STATE too", w.inverse(8, 0), UNKNOWN);
            due("inverse(0, 8), STATE too", w.inverse(0, 8), UNKNOWN);
            due("makes(8, 0), STATE too", w.makes(8, 0), UNKNOWN);
            due("makes(0, 8), STATE too", w.makes(0, 8), UNKNOWN);
        }
        Words all = endless();
        due("nth(-1, 8)", all.nth(-1, 8), UNKNOWN);
        due("nth(MAX, 8), none such too", all.nth(Long.MAX_VALUE, 8), UNKNOWN);
        due("power(3, 101, 8), FULL too", all.power(3, 101, 8), UNKNOWN);
        due("power(3, 2, 8), FULL too", all.power(3, 2, 8), UNKNOWN);
        due("power(3, 101, 0), FULL too", all.power(3, 101, 0), OUTSIDE);
        due("inverse(3, 8), FULL too", all.inverse(3, 8), UNKNOWN);
        due("makes(3, 8), FULL too", all.makes(3, 8), UNKNOWN);
    }

    private static void refusedChangesNothing() {
        stays(EdgesTest::closedOnes, "letters(5)", x -> x.letters(5), OUTSIDE);
        stays(EdgesTest::closedOnes, "letter(2)", x -> x.letter(2), UNKNOWN);
        stays(EdgesTest::full, "letter(0)", x -> x.letter(0), FULL);
        stays(EdgesTest::closedOnes, "slot(8)", x -> x.slot(8), UNKNOWN);
        stays(EdgesTest::closedOnes, "at(8, 0)", x -> x.at(8, 0), UNKNOWN);
        stays(EdgesTest::closedOnes, "length(8)", x -> x.length(8), UNKNOWN);
        stays(EdgesTest::closedOnes, "law(0, 8)", x -> x.law(0, 8), UNKNOWN);
        stays(EdgesTest::closedOnes, "law(0, 3)", x -> x.law(0, 3), STATE);
        stays(EdgesTest::full, "law(0, 0)", x -> x.law(0, 0), FULL);
        stays(EdgesTest::closedOnes, "see(13)", x -> x.see(13), OUTSIDE);
        stays(EdgesTest::notSeen, "least()", x -> x.least(), STATE);
        stays(EdgesTest::notSeen, "rule(0, true, 0)", x -> x.rule(0, true, 0), STATE);
        stays(EdgesTest::closedOnes, "rule(3, true, 0)", x -> x.rule(3, true, 0), UNKNOWN);
        stays(EdgesTest::notSeen, "closed()", x -> x.closed(), STATE);
        stays(EdgesTest::closedOnes, "reduce(2, 8)", x -> x.reduce(2, 8), UNKNOWN);
        stays(EdgesTest::notSeen, "reduce(2, 1)", x -> x.reduce(2, 1), STATE);
        stays(EdgesTest::notClosed, "reduce(3, 1)", x -> x.reduce(3, 1), STATE);
        stays(EdgesTest::closedOnes, "like(2, 8)", x -> x.like(2, 8), UNKNOWN);
        stays(EdgesTest::notClosed, "like(2, 3)", x -> x.like(2, 3), STATE);
        stays(EdgesTest::notClosed, "states()", x -> x.states(), STATE);
        stays(EdgesTest::notClosed, "leads(0, 0)", x -> x.leads(0, 0), STATE);
        stays(EdgesTest::closedOnes, "leads(4, 0)", x -> x.leads(4, 0), UNKNOWN);
        stays(EdgesTest::closedOnes, "count(31)", x -> x.count(31), OUTSIDE);
        stays(EdgesTest::notClosed, "count(0)", x -> x.count(0), STATE);
        stays(EdgesTest::notClosed, "size()", x -> x.size(), STATE);
        stays(EdgesTest::closedOnes, "nth(0, 8)", x -> x.nth(0, 8), UNKNOWN);
        stays(EdgesTest::closedOnes, "nth(-1, 1)", x -> x.nth(-1, 1), OUTSIDE);
        stays(EdgesTest::notClosed, "nth(0, 1)", x -> x.nth(0, 1), STATE);
        stays(EdgesTest::closedOnes, "nth(6, 1)", x -> x.nth(6, 1), NONE);
        stays(EdgesTest::endless, "nth(MAX, 1)", x -> x.nth(Long.MAX_VALUE, 1), NONE);
        stays(EdgesTest::closedOnes, "rank(8)", x -> x.rank(8), UNKNOWN);
        stays(EdgesTest::notClosed, "rank(0)", x -> x.rank(0), STATE);
        stays(EdgesTest::endless, "rank(3)", x -> x.rank(3), FULL);
        stays(EdgesTest::closedOnes, "power(2, 2, 8)", x -> x.power(2, 2, 8), UNKNOWN);
        stays(EdgesTest::closedOnes, "power(2, 101, 1)", x -> x.power(2, 101, 1), OUTSIDE);
        stays(EdgesTest::notClosed, "power(2, 2, 1)", x -> x.power(2, 2, 1), STATE);
        stays(EdgesTest::endless, "power(2, 9, 1)", x -> x.power(2, 9, 1), FULL);
        stays(EdgesTest::endless, "power(3, 2, 3)", x -> x.power(3, 2, 3), FULL);
        stays(EdgesTest::closedOnes, "order(8)", x -> x.order(8), UNKNOWN);
        stays(EdgesTest::notClosed, "order(1)", x -> x.order(1), STATE);
        stays(EdgesTest::endless, "order(1)", x -> x.order(1), FULL);
        stays(EdgesTest::closedOnes, "inverse(1, 8)", x -> x.inverse(1, 8), UNKNOWN);
        stays(EdgesTest::notClosed, "inverse(1, 2)", x -> x.inverse(1, 2), STATE);
        stays(EdgesTest::endless, "inverse(1, 2)", x -> x.inverse(1, 2), NONE);
        stays(EdgesTest::endless, "inverse(3, 1)", x -> x.inverse(3, 1), FULL);
        stays(EdgesTest::closedOnes, "makes(1, 8)", x -> x.makes(1, 8), UNKNOWN);
        stays(EdgesTest::notClosed, "makes(1, 2)", x -> x.makes(1, 2), STATE);
        stays(EdgesTest::endless, "makes(1, 2)", x -> x.makes(1, 2), FULL);
        stays(EdgesTest::closedOnes, "total(4)", x -> x.total(4), OUTSIDE);
    }

    private static void wordsAndLaws() {
        says(TERMS, "==== 1 LETTERS are 0 .. n - 1 (1 to 4; 2 at first).", () -> {
            due("total(0) at first", new Words().total(0), 2);
            due("letters(0)", new Words().letters(0), OUTSIDE);
            due("letters(5)", new Words().letters(5), OUTSIDE);
            for (int n = 1; n <= 4; n++) {
                Words x = new Words();
                due("letters(" + n + ")", x.letters(n), 2);
                for (int l = 0; l < n; l++) due("letter(" + l + ") of " + n, x.letter(l), l + 1);
                due("letter(" + n + ") of " + n, x.letter(n), UNKNOWN);
                due("letter(-1) of " + n, x.letter(-1), UNKNOWN);
            }
        });
        says(TERMS, "STRINGS are rows of LETTERS; THE STRING is one that is collected, SLOTS 0 .. 7 have one each", () -> {
            Words x = new Words();
            for (int k = 0; k < 8; k++) put(x, times("1", k), k);
            for (int k = 0; k < 8; k++) due("length(" + k + ")", x.length(k), k);
            for (int k : NO_SLOTS) due("length(" + k + ")", x.length(k), UNKNOWN);
        });
        says(TERMS, "(60 LETTERS at most;", () -> {
            Words x = new Words();
            for (int i = 1; i <= 60; i++) due("letter(1), number " + i, x.letter(1), i);
            due("letter(1), number 61", x.letter(1), FULL);
            due("slot(7)", x.slot(7), 60);
        });
        says(TERMS, "all without LETTERS at first).", () -> {
            Words x = new Words();
            due("total(3)", x.total(3), 0);
            for (int k = 0; k < 8; k++) due("SLOT " + k, text(x, k), "");
        });
        says(TERMS, "STRINGS have an ORDER: a shorter one is ahead of a longer one;", () -> {
            Words x = made(3, "", 1);
            String[] ones = {"", "0", "1", "2", "00"};
            for (int i = 0; i < ones.length; i++) {
                x.nth(i, 0);
                due("the STRING of number " + i, text(x, 0), ones[i]);
            }
            x.nth(12, 0);
            due("the last one of two LETTERS", text(x, 0), "22");
            x.nth(13, 0);
            due("the first one of three LETTERS", text(x, 0), "000");
            due("RULES of 1=00", rules(made(2, "1=00", 2)), "00>1");
            due("RULES of 00=1", rules(made(2, "00=1", 2)), "00>1");
            due("RULES of =0", rules(made(2, "=0", 2)), "0>");
        });
        says(TERMS, "of as long ones that which has, where they are first unlike, the lesser LETTER.", () -> {
            due("RULES of 01=10", rules(made(2, "01=10", 2)), "10>01");
            due("RULES of 100=011, unlike at the first", rules(made(2, "100=011", 3)), "100>011");
            due("RULES of 010=001, unlike at the second", rules(made(2, "010=001", 3)), "010>001");
            due("RULES of 110=111, unlike at the last", rules(made(2, "110=111", 3)), "111>110");
            due("RULES of 3=2", rules(made(4, "3=2", 1)), "3>2");
        });
        says(TERMS, "LAWS, 8 at most, are pairs of STRINGS of at most 12 LETTERS.", () -> {
            Words x = new Words();
            put(x, times("0", 12), 0);
            put(x, times("1", 12), 1);
            put(x, times("1", 13), 2);
            due("law(0, 2)", x.law(0, 2), STATE);
            for (int i = 1; i <= 8; i++) due("law(0, 1), number " + i, x.law(0, 1), i);
            due("law(0, 1), number 9", x.law(0, 1), FULL);
            due("see(12)", x.see(12), 1);
            due("RULES", rules(x), times("1", 12) + ">" + times("0", 12));
        });
    }

    private static void toSee() {
        says(TERMS, "TO SEE to a length m: a STEP puts, anywhere within a STRING, one side of a LAW in place of the other one;",
                () -> {
            // A side without LETTERS is anywhere: 1 may come and go at the beginning, amid, at the end.
            Words x = made(2, "=1", 3);
            due("RULES of =1", rules(x), "1>");
            due("least() of =1", x.least(), 4);
            Words y = made(3, "12=0", 3);
            due("least() of 12=0", y.least(), 1 + 3 + 8 + 21);
            due("RULES of 12=0", rules(y), "12>0");
            due("RULES of both sides alike", rules(made(2, "01=01", 4)), "");
            due("RULES of no LETTERS on either side", rules(made(2, "=", 4)), "");
        });
        says(TERMS, "STRINGS of at most m LETTERS are JOINED, if STEPS lead from one to the other by such STRINGS alone.", () -> {
            due("RULES to 2, where the way has three LETTERS", rules(made(2, "00=111,01=111", 2)), "");
            due("least() to 2", made(2, "00=111,01=111", 2).least(), 7);
            due("RULES to 3", rules(made(2, "00=111,01=111", 3)), "01>00,111>00");
            due("RULES of a side as long as what is SEEN", rules(made(2, "1111=0", 4)), "1111>0");
            due("RULES of a side that is longer", rules(made(2, "1111=0", 3)), "");
        });
        says(TERMS, "Of those that are JOINED the LEAST is the first in ORDER.", () -> {
            due("RULES of three that are JOINED", rules(made(3, "22=11,11=10", 2)), "11>10,22>10");
            due("RULES with that without LETTERS", rules(made(3, "2=1,1=0,0=", 1)), "0>,1>,2>");
            due("least(), all JOINED", made(3, "2=1,1=0,0=", 8).least(), 1);
            due("least(), none JOINED", made(3, "", 8).least(), 9841);
        });
        says(TERMS, "RULES: all STRINGS of at most m LETTERS that are not LEAST, and each part of which (without the first, or "
                + "without the last LETTER) is; each as a LEFT side, its RIGHT side being the LEAST that is JOINED with it;", () -> {
            due("a RULE of one LETTER, whose part has none", rules(made(2, "0=", 1)), "0>");
            due("a RULE as long as what is SEEN", rules(made(2, "000=1", 3)), "000>1");
            // Four zeros are 10 and 01.
            due("the same, longer", rules(made(2, "000=1", 4)), "10>01,000>1");
            due("no RULES, where the LAW is longer", rules(made(2, "000=1", 2)), "");
            due("of one LETTER, the longest", rules(made(1, times("0", 12) + "=" + times("0", 11), 20)),
                    times("0", 12) + ">" + times("0", 11));
        });
        says(TERMS, "they are numbered by ORDER of LEFT sides.", () -> {
            due("RULES", rules(made(3, "222=,11=,0=", 3)), "0>,11>,222>");
            due("RULES", rules(made(4, "33=,13=,31=,11=", 2)), "11>,13>,31>,33>");
        });
        says(TERMS, "TO REDUCE a STRING is to put RIGHT sides in place of LEFT ones, anywhere, till none is in it.", () -> {
            Words x = made(3, "01=2", 4);
            String[] from = {"", "2", "10", "01", "011", "201", "2012", "0101", times("01", 30), times("10", 30)};
            String[] to = {"", "2", "10", "2", "21", "22", "222", "22", times("2", 30), "1" + times("2", 29) + "0"};
            for (int i = 0; i < from.length; i++) {
                Words y = put(made(3, "01=2", 4), from[i], 1);
                y.reduce(1, 1);
                due("what " + from[i] + " REDUCES to", text(y, 1), to[i]);
            }
            due("closed()", x.closed(), 1);
        });
    }

    private static void toBeClosed() {
        says(TERMS, "The RULES are CLOSED, if both sides of each LAW REDUCE to like STRINGS,", () -> {
            due("closed(), a LAW longer than what is SEEN", made(1, "00000=", 4).closed(), 0);
            due("closed(), as long", made(1, "00000=", 5).closed(), 1);
            due("closed(), longer, both sides alike", made(2, "0101=0101", 3).closed(), 1);
            due("closed(), longer, but 1 is none and so is 111", made(2, "1=,111=", 2).closed(), 1);
            due("closed(), the last of eight LAWS", made(2, "0=0,0=0,0=0,0=0,0=0,0=0,0=0,000=", 2).closed(), 0);
            due("closed() without LAWS", made(2, "", 1).closed(), 1);
        });
        says(TERMS, "and for each two RULES (also one with itself) whose LEFT sides are u v and v w (v, and u, w at least one "
                + "LETTER),", () -> {
            due("RULES", rules(made(2, "010=1", 3)), "010>1");
            due("closed(), one with itself", made(2, "010=1", 3).closed(), 0);
            due("closed(), one with itself, by all but a LETTER", made(2, "0000=1", 4).closed(), 0);
            due("closed(), one with itself that agrees", made(1, "0000=", 4).closed(), 1);
            due("RULES", rules(made(2, "01=0,10=1", 2)), "01>0,10>1");
            due("closed(), one with another", made(2, "01=0,10=1", 2).closed(), 0);
            due("closed(), the same, longer", made(2, "01=0,10=1", 3).closed(), 1);
            due("closed(), nothing in common", made(4, "01=,23=", 2).closed(), 1);
        });
        says(TERMS, "or u v w and v (not both alike), the STRING u v w REDUCES to like STRINGS, whether the one or the other RULE "
                + "is used first;", () -> {
            due("RULES where one ends another", rules(made(2, "110=,110=0", 3)), "0>,110>");
            due("closed() of these", made(2, "110=,110=0", 3).closed(), 0);
            due("RULES where one begins another", rules(made(2, "011=,011=0", 3)), "0>,011>");
            due("closed() of these", made(2, "011=,011=0", 3).closed(), 0);
            due("RULES where one is amid another", rules(made(2, "101=,101=0", 3)), "0>,101>");
            due("closed() of these", made(2, "101=,101=0", 3).closed(), 0);
            // Here both sides of the LAW agree, and so does what has but a part in common.
            due("RULES where one ends another", rules(made(2, "=10110", 8)), "110>101,10110>");
            due("closed() of these", made(2, "=10110", 8).closed(), 0);
            due("RULES where one is in another, and agrees", rules(made(1, "0=00000,000000=00000", 7)), "00>0,00000>0");
            due("closed() of these", made(1, "0=00000,000000=00000", 7).closed(), 1);
            due("RULES where one begins another, and agrees", rules(made(2, "100=,011=", 7)), "1>0,000>,100>");
            due("closed() of these", made(2, "100=,011=", 7).closed(), 1);
            due("RULES where one ends another, and agrees", rules(made(2, "001=,=000", 4)), "1>0,000>,001>");
            due("closed() of these", made(2, "001=,=000", 4).closed(), 1);
            due("RULES where one is at all places of another", rules(made(1, "=0000,00=0000", 4)), "00>,0000>");
            due("closed() of these", made(1, "=0000,00=0000", 4).closed(), 1);
        });
        says(TERMS, "and none of the STRINGS on the way has more than 60 LETTERS.", () -> {
            // No STRING can: u v w of the longest LEFT sides has not forty, and none gets longer on the way.
            due("closed(), LEFT sides of 12", made(2, "000000000000=,111111111111=", 12).closed(), 1);
            due("closed(), a LEFT side of 12 with itself", made(1, times("0", 12) + "=" + times("0", 11), 20).closed(), 1);
        });
        says(TERMS, "Then each STRING REDUCES to just one, in whatever order, and two STRINGS are LIKE (by STEPS, of any length) "
                + "exactly if they REDUCE to like ones.", () -> {
            Words x = made(2, "10=01", 2);
            put(x, times("10", 30), 1);
            put(x, times("1", 30) + times("0", 30), 2);
            put(x, times("1", 31) + times("0", 29), 3);
            due("like(1, 2), sixty LETTERS, two SEEN", x.like(1, 2), 1);
            due("like(1, 3)", x.like(1, 3), 0);
            x.reduce(1, 4);
            due("what SLOT 1 REDUCES to", text(x, 4), times("0", 30) + times("1", 30));
        });
        says(TERMS, "(To tell whether they are CLOSED, each STRING is REDUCED at the place where the first LEFT side ends, of "
                + "several there the longest; so also below.)", () -> {
            // Two LEFT sides end at the last LETTER of five; whichever is taken, CLOSED RULES come to the same.
            Words x = made(1, "0=00000,000000=00000", 7);
            for (int many = 1; many <= 60; many += 59) {
                put(x, times("0", many), 1);
                due("reduce(1, 2) of " + many, x.reduce(1, 2), 1);
            }
            Words y = made(3, "100=1012,0=1212,2=", 8);
            due("RULES", rules(y), "2>,10>01,11>0,000>00,001>00,1000001>1000000");
            put(y, "1000001", 1);
            due("reduce(1, 1)", y.reduce(1, 1), 2);
            due("SLOT 1", text(y, 1), "00");
        });
    }

    private static void theMachine() {
        says(TERMS, "==== 2 With RULES that are CLOSED: a STATE of THE MACHINE is a STRING that begins a LEFT side and is not all of "
                + "it (the one without LETTERS is one, also if there are no RULES);", () -> {
            due("states() without RULES", made(2, "", 1).states(), 1);
            due("states() without RULES, four LETTERS", made(4, "", 6).states(), 1);
            due("states() of a LEFT side of one LETTER", made(2, "0=", 3).states(), 1);
            due("states() of a LEFT side of two", made(2, "00=", 3).states(), 2);
            due("states() of a LEFT side of twelve", made(1, times("0", 12) + "=", 20).states(), 12);
            due("states(), one that is all of one LEFT side and begins another",
                    made(1, "0=00000,000000=00000", 7).states(), 5);
        });
        says(TERMS, "STATES are numbered by ORDER.", () -> {
            // They are none, 0, 1, 10.
            Words x = made(2, SIX, 12);
            due("leads(0, 0)", x.leads(0, 0), 1);
            due("leads(0, 1)", x.leads(0, 1), 2);
            due("leads(2, 0)", x.leads(2, 0), 3);
        });
        says(TERMS, "A LETTER leads from a STATE to the longest one that ends the STRING of both;", () -> {
            // They are none, 0, 00, 001.
            Words x = made(2, "0011=", 12);
            due("leads(0, 1), to that without LETTERS", x.leads(0, 1), 0);
            due("leads(1, 0), to all of it", x.leads(1, 0), 2);
            due("leads(2, 0), to less by a LETTER", x.leads(2, 0), 2);
            due("leads(3, 0), to the last LETTER", x.leads(3, 0), 1);
            due("leads(1, 1), to none", x.leads(1, 1), 0);
        });
        says(TERMS, "it leads nowhere, if a LEFT side ends that.", () -> {
            due("leads(3, 1)", made(2, "0011=", 12).leads(3, 1), NONE);
            due("leads(0, 0), a LEFT side of one LETTER", made(2, "0=", 3).leads(0, 0), NONE);
            Words x = made(1, "0=00000,000000=00000", 7);
            due("leads(1, 0), which is a STATE and a LEFT side", x.leads(1, 0), NONE);
            due("leads(2, 0), where a shorter LEFT side ends", x.leads(2, 0), NONE);
        });
        says(TERMS, "The LEAST STRINGS are just those along which one comes from STATE 0.", () -> {
            for (int number = 0; number < 31; number++) {
                Words x = made(2, SIX, 12);
                // Without its first digit a number from 1 on is a STRING.
                String s = Integer.toBinaryString(number + 1).substring(1);
                int state = 0;
                for (int i = 0; i < s.length() && state >= 0; i++) state = x.leads(state, s.charAt(i) - '0');
                put(x, s, 1);
                x.reduce(1, 2);
                due("whether " + s + " is LEAST", state >= 0 ? 1 : 0, text(x, 2).equals(s) ? 1 : 0);
            }
        });
        says(TERMS, "They are ENDLESS, if there are some of any length.", () -> {
            due("size() of all", made(1, "", 1).size(), NONE);
            due("size(), one of each length", made(2, "1=", 1).size(), NONE);
            due("size(), two of each length", made(2, MIRRORS, 2).size(), NONE);
            due("size(), up to thirty-one", made(2, LONGEST_THIRTY_ONE, 12).size(), FULL);
            due("size(), that without LETTERS alone", made(2, "0=,1=", 1).size(), 1);
        });
        headings();
    }

    private static void headings() {
        says(TERMS, "Ahead of the calls `letters`, `letter`, `clear`, `slot`, `at`, `length`, `law`, `free` the interface says: ---- "
                + "words, laws.", () -> {
            Words x = new Words();
            due("letters(2), nothing SEEN", x.letters(2), 2);
            due("letter(0), nothing SEEN", x.letter(0), 1);
            due("clear(), nothing SEEN", x.clear(), 1);
            due("slot(0), nothing SEEN", x.slot(0), 0);
            due("at(0, 0), nothing SEEN", x.at(0, 0), NONE);
            due("length(0), nothing SEEN", x.length(0), 0);
            due("law(0, 0), nothing SEEN", x.law(0, 0), 1);
            due("free(), nothing SEEN", x.free(), 1);
        });
        says(TERMS, "Ahead of the calls `see`, `seen`, `least`, `rule`, `closed`, `reduce`, `like` the interface says: ---- what is "
                + "seen.", () -> {
            Words x = notClosed();
            due("seen(), not CLOSED", x.seen(), 8);
            due("least(), not CLOSED", x.least(), 7);
            due("rule(0, true, 0), not CLOSED", x.rule(0, true, 0), 0);
            due("closed(), not CLOSED", x.closed(), 0);
            due("reduce(1, 1), not CLOSED", x.reduce(1, 1), 2);
            due("like(1, 2), not CLOSED", x.like(1, 2), 0);
            due("see(12), not CLOSED", x.see(12), 3);
        });
        says(TERMS, "Ahead of the calls `states`, `leads`, `count`, `size`, `nth`, `rank`, `power`, `order`, `inverse`, `makes`, "
                + "`total` the interface says: ---- the machine (all: STATE: nothing is SEEN, or the RULES are not CLOSED:", () -> {
            dueNoMachine(notSeen());
            dueNoMachine(notClosed());
            // Promise 27 names no STATE: what total() tells is there at any time.
            due("total(2), nothing SEEN", notSeen().total(2), 0);
            due("total(2), not CLOSED", notClosed().total(2), 4);
        });
        says(TERMS, "ahead of all but UNKNOWN of SLOTS, OUTSIDE).", () -> {
            for (Words x : new Words[] {notSeen(), notClosed()}) {
                due("leads(-1, 0)", x.leads(-1, 0), STATE);
                due("leads(0, 2)", x.leads(0, 2), STATE);
                due("nth(MAX, 1)", x.nth(Long.MAX_VALUE, 1), STATE);
                due("power(3, 2, 1)", x.power(3, 2, 1), STATE);
                due("rank(3)", x.rank(3), STATE);
                due("nth(0, 8)", x.nth(0, 8), UNKNOWN);
                due("rank(8)", x.rank(8), UNKNOWN);
                due("power(8, 1, 0)", x.power(8, 1, 0), UNKNOWN);
                due("order(-1)", x.order(-1), UNKNOWN);
                due("inverse(0, -1)", x.inverse(0, -1), UNKNOWN);
                due("makes(-1, 0)", x.makes(-1, 0), UNKNOWN);
                due("count(-1)", x.count(-1), OUTSIDE);
                due("nth(-1, 0)", x.nth(-1, 0), OUTSIDE);
                due("power(0, -1, 0)", x.power(0, -1, 0), OUTSIDE);
                due("total(-1)", x.total(-1), OUTSIDE);
            }
        });
    }

    // ---- promises 1 to 9: words, laws

    private static void newObject() {
        says(1, "Two LETTERS,", () -> {
            Words x = new Words();
            due("total(0)", x.total(0), 2);
            due("letter(1)", x.letter(1), 1);
            due("letter(2)", x.letter(2), UNKNOWN);
            due("letters(2)", x.letters(2), 2);
        });
        says(1, "no LAWS,", () -> {
            Words x = new Words();
            due("total(1)", x.total(1), 0);
            due("free()", x.free(), 0);
            due("law(0, 0)", x.law(0, 0), 1);
            due("another object's total(1)", new Words().total(1), 0);
        });
        says(1, "nothing is SEEN.", () -> dueNotSeen(new Words()));
    }

    private static void letters() {
        says(2, "n LETTERS;", () -> {
            for (int n = 1; n <= 4; n++) {
                Words x = new Words();
                x.letters(n);
                due("total(0)", x.total(0), n);
                due("letter(" + (n - 1) + ") of " + n, x.letter(n - 1), 1);
                due("letter(" + n + ") of " + n, x.letter(n), UNKNOWN);
                due("see(1) of " + n, x.see(1), 0);
                due("least() of " + n, x.least(), n + 1);
            }
        });
        says(2, "all STRINGS are without LETTERS, there are no LAWS, nothing is SEEN:", () -> {
            // Two as before: this is no less than another number.
            for (int n = 1; n <= 4; n++) {
                Words x = full();
                put(x, "1", 0);
                for (int k = 4; k < 8; k++) put(x, "1", k);
                collect(x, "011");
                x.letters(n);
                due("total(3) of " + n, x.total(3), 0);
                for (int k = 0; k < 8; k++) due("length(" + k + ") of " + n, x.length(k), 0);
                due("at(3, 0) of " + n, x.at(3, 0), NONE);
                due("total(1) of " + n, x.total(1), 0);
                dueNotSeen(x);
                due("see(2) of " + n, x.see(2), 0);
                due("free() of " + n, x.free(), 0);
            }
        });
        says(2, "how many there were.", () -> {
            Words x = new Words();
            int before = 2;
            for (int n : new int[] {4, 1, 1, 3, 2, 4, 4}) {
                due("letters(" + n + ")", x.letters(n), before);
                due("letters(5)", x.letters(5), OUTSIDE);
                before = n;
            }
        });
        says(2, "OUTSIDE.", () -> {
            for (int n : new int[] {0, 5, -1, 6, -4, MIN, MAX}) {
                stays(EdgesTest::closedOnes, "letters(" + n + ")", x -> x.letters(n), OUTSIDE);
            }
        });
    }

    private static void letter() {
        says(3, "A LETTER comes to the end of THE STRING: how many.", () -> {
            Words x = new Words();
            x.letters(4);
            for (int i = 0; i < 60; i++) due("letter, number " + (i + 1), x.letter(i * i % 4), i + 1);
            x.slot(2);
            for (int i = 0; i < 60; i++) due("at(2, " + i + ")", x.at(2, i), i * i % 4);
        });
        says(3, "UNKNOWN;", () -> {
            for (int n = 1; n <= 4; n++) {
                int many = n;
                for (int l : new int[] {-1, n, MIN, MAX}) {
                    stays(() -> collect(made(many, "", 1), "0"), "letter(" + l + ") of " + n, x -> x.letter(l), UNKNOWN);
                }
            }
            stays(EdgesTest::full, "letter(2), no room", x -> x.letter(2), UNKNOWN);
        });
        says(3, "FULL: 60.", () -> {
            Words x = collect(new Words(), times("0", 59));
            due("letter(1), number 60", x.letter(1), 60);
            due("letter(1), number 61", x.letter(1), FULL);
            due("letter(0), number 61", x.letter(0), FULL);
            due("total(3)", x.total(3), 60);
            due("slot(0)", x.slot(0), 60);
            due("at(0, 59)", x.at(0, 59), 1);
            due("letter(1), behind slot()", x.letter(1), 1);
            collect(x, times("1", 60));
            x.clear();
            due("letter(1), behind clear()", x.letter(1), 1);
            stays(EdgesTest::full, "letter(0)", y -> y.letter(0), FULL);
        });
    }

    private static void clear() {
        says(4, "THE STRING is without LETTERS: how many it had.", () -> {
            Words x = new Words();
            due("clear(), nothing to clear", x.clear(), 0);
            for (int many : new int[] {1, 59, 60}) {
                collect(x, times("1", many));
                due("clear() of " + many, x.clear(), many);
                due("total(3)", x.total(3), 0);
                due("clear() again", x.clear(), 0);
            }
            put(x, "101", 5);
            x.letter(0);
            x.clear();
            due("SLOT 5", text(x, 5), "101");
            x.letter(1);
            x.slot(5);
            due("SLOT 5, what came behind clear() alone", text(x, 5), "1");
            Words seen = closedOnes();
            seen.clear();
            due("seen() behind clear()", seen.seen(), 12);
        });
    }

    private static void slot() {
        says(5, "A SLOT gets THE STRING, which is without LETTERS then: how many.", () -> {
            Words x = new Words();
            due("slot(0), THE STRING without LETTERS", x.slot(0), 0);
            collect(x, times("1", 60));
            due("slot(7)", x.slot(7), 60);
            due("total(3)", x.total(3), 0);
            due("length(7)", x.length(7), 60);
            due("slot(0)", x.slot(0), 0);
            collect(x, "01");
            due("slot(7)", x.slot(7), 2);
            due("SLOT 7, with nothing of what it had", text(x, 7), "01");
            due("at(7, 2)", x.at(7, 2), NONE);
            x.letter(1);
            due("SLOT 7, which does not grow with THE STRING", text(x, 7), "01");
            x.clear();
            due("slot(7), of no LETTERS", x.slot(7), 0);
            due("SLOT 7", text(x, 7), "");
            for (int k = 0; k < 8; k++) due("length(" + k + ")", x.length(k), 0);
        });
        says(5, "UNKNOWN.", () -> {
            for (int k : NO_SLOTS) {
                stays(EdgesTest::notSeen, "slot(" + k + ")", x -> x.slot(k), UNKNOWN);
                stays(EdgesTest::full, "slot(" + k + ") of sixty", x -> x.slot(k), UNKNOWN);
            }
        });
    }

    private static void at() {
        says(6, "LETTER i of the STRING of a SLOT;", () -> {
            Words x = put(new Words(), "1" + times("0", 58) + "1", 7);
            due("at(7, 0)", x.at(7, 0), 1);
            due("at(7, 1)", x.at(7, 1), 0);
            due("at(7, 58)", x.at(7, 58), 0);
            due("at(7, 59)", x.at(7, 59), 1);
            Words four = put(made(4, "", 0), "3", 0);
            due("at(0, 0)", four.at(0, 0), 3);
        });
        says(6, "NONE.", () -> {
            Words x = put(new Words(), times("1", 60), 0);
            for (int i : new int[] {-1, 60, 61, MIN, MAX}) due("at(0, " + i + ")", x.at(0, i), NONE);
            due("at(1, 0) of no LETTERS", x.at(1, 0), NONE);
            due("at(1, -1) of no LETTERS", x.at(1, -1), NONE);
            put(x, "11", 0);
            due("at(0, 1)", x.at(0, 1), 1);
            due("at(0, 2), behind a shorter one", x.at(0, 2), NONE);
        });
        says(6, "UNKNOWN.", () -> {
            for (int k : NO_SLOTS) {
                dueUnknown("at", x -> x.at(k, 0), x -> x.at(k, -1));
            }
        });
    }

    private static void length() {
        says(7, "How many LETTERS the STRING of a SLOT has.", () -> {
            Words x = new Words();
            for (int many : new int[] {0, 1, 59, 60, 1, 0}) {
                put(x, times("1", many), 7);
                due("length(7)", x.length(7), many);
                due("length(0)", x.length(0), 0);
            }
        });
        says(7, "UNKNOWN.", () -> {
            for (int k : NO_SLOTS) dueUnknown("length", x -> x.length(k));
        });
    }

    private static void law() {
        says(8, "A LAW of the STRINGS of two SLOTS: how many;", () -> {
            Words x = new Words();
            put(x, times("0", 12), 0);
            put(x, times("1", 12), 7);
            due("law(0, 7)", x.law(0, 7), 1);
            due("law(7, 0)", x.law(7, 0), 2);
            due("law(3, 3) of no LETTERS", x.law(3, 3), 3);
            due("law(0, 0)", x.law(0, 0), 4);
            due("total(1)", x.total(1), 4);
            Words y = put(new Words(), "00", 0);
            y.law(0, 1);
            put(y, "11", 0);
            y.see(2);
            due("RULES, when the SLOT has another STRING", rules(y), "00>");
            due("SLOT 0", text(y, 0), "11");
        });
        says(8, "nothing is SEEN any more.", () -> {
            Words x = closedOnes();
            due("law(0, 0), which says nothing", x.law(0, 0), 4);
            dueNotSeen(x);
            Words y = notClosed();
            due("law(0, 0), not CLOSED", y.law(0, 0), 4);
            dueNotSeen(y);
        });
        says(8, "UNKNOWN;", () -> {
            for (int k : NO_SLOTS) dueUnknown("law", x -> x.law(k, 0), x -> x.law(0, k), x -> x.law(k, k), x -> x.law(3, k));
        });
        says(8, "STATE: one has more than 12 LETTERS;", () -> {
            for (int many : new int[] {13, 14, 60}) {
                Supplier<Words> make = () -> put(made(2, SIX, 12), times("0", many), 5);
                stays(make, "law(5, 0) of " + many, x -> x.law(5, 0), STATE);
                stays(make, "law(0, 5) of " + many, x -> x.law(0, 5), STATE);
                stays(make, "law(5, 5) of " + many, x -> x.law(5, 5), STATE);
            }
            stays(EdgesTest::full, "law(3, 0), no room", x -> x.law(3, 0), STATE);
            stays(EdgesTest::full, "law(0, 3), no room", x -> x.law(0, 3), STATE);
            due("law(5, 5) of 12", put(new Words(), times("0", 12), 5).law(5, 5), 1);
        });
        says(8, "FULL.", () -> {
            Words x = new Words();
            for (int i = 1; i <= 8; i++) due("law(0, 1), number " + i, x.law(0, 1), i);
            due("law(0, 1), number 9", x.law(0, 1), FULL);
            due("total(1)", x.total(1), 8);
            due("free()", x.free(), 8);
            due("law(0, 1), behind free()", x.law(0, 1), 1);
            stays(EdgesTest::full, "law(0, 0)", y -> y.law(0, 0), FULL);
            stays(EdgesTest::full, "law(1, 2)", y -> y.law(1, 2), FULL);
        });
    }

    private static void free() {
        says(9, "There are no LAWS, nothing is SEEN: how many LAWS there were.", () -> {
            Words x = full();
            due("free() of eight", x.free(), 8);
            due("total(1)", x.total(1), 0);
            dueNotSeen(x);
            due("length(3)", x.length(3), 60);
            due("total(3)", x.total(3), 60);
            due("free() of none", x.free(), 0);
            due("see(6)", x.see(6), 0);
            due("closed()", x.closed(), 1);
            due("free() of none, words SEEN", x.free(), 0);
            dueNotSeen(x);
            due("free() of a new object", new Words().free(), 0);
        });
    }

    // ---- promises 10 to 16: what is seen

    private static void see() {
        says(10, "Words are SEEN to a length m: how many RULES there are.", () -> {
            due("see(1), no LAWS", new Words().see(1), 0);
            due("see(1), one RULE", made(2, "1=", 0).see(1), 1);
            due("see(11), forty RULES", made(2, FORTY_RULES, 0).see(11), 40);
            Words x = made(2, SIX, 0);
            due("see(12)", x.see(12), 3);
            due("see(8)", x.see(8), 4);
            due("RULES to 8", rules(x), "00>,11>,0101>10,1010>01");
            due("see(1)", x.see(1), 0);
            due("RULES to 1", rules(x), "");
            due("see(12)", x.see(12), 3);
            due("RULES to 12", rules(x), "00>,11>,101>010");
        });
        says(10, "OUTSIDE: m is not 1 .. 20,", () -> {
            for (int m : new int[] {0, 21, -1, 22, MIN, MAX}) {
                stays(() -> made(1, "000=", 6), "see(" + m + ") of one LETTER", x -> x.see(m), OUTSIDE);
                stays(() -> made(2, FORTY_ONE_RULES, 3), "see(" + m + ") of two LETTERS", x -> x.see(m), OUTSIDE);
            }
            Words x = made(1, "", 0);
            for (int m = 1; m <= 20; m++) {
                due("see(" + m + ") of one LETTER", x.see(m), 0);
                due("least()", x.least(), m + 1);
            }
        });
        says(10, "or there are more than 10000 STRINGS of at most m LETTERS (that without LETTERS is one);", () -> {
            int[] longest = {0, 20, 12, 8, 6};
            int[] many = {0, 21, 8191, 9841, 5461};
            for (int n = 1; n <= 4; n++) {
                int letters = n;
                Words x = made(n, "", 0);
                due("see(" + longest[n] + ") of " + n, x.see(longest[n]), 0);
                due("least() of " + n, x.least(), many[n]);
                for (int m = longest[n] + 1; m <= 20; m++) {
                    int length = m;
                    stays(() -> made(letters, "00=", 2), "see(" + m + ") of " + n, y -> y.see(length), OUTSIDE);
                }
            }
            stays(() -> made(2, FORTY_ONE_RULES, 3), "see(13), too many RULES", y -> y.see(13), OUTSIDE);
        });
        says(10, "FULL: there would be more than 40 RULES", () -> {
            due("see(11) of forty", made(2, FORTY_RULES, 0).see(11), 40);
            due("see(12) of forty-one", made(2, FORTY_ONE_RULES, 0).see(12), FULL);
            due("see(12) of fifty-nine", made(2, "00111=0110,1110=01000,1000=0101", 0).see(12), FULL);
        });
        says(10, "(nothing is SEEN then).", () -> {
            Words x = filled(made(2, FORTY_ONE_RULES, 3));
            due("see(12)", x.see(12), FULL);
            dueNotSeen(x);
            due("total(1)", x.total(1), 2);
            due("total(3)", x.total(3), 2);
            due("SLOT 2", text(x, 2), "1010110");
            due("see(3)", x.see(3), 0);
            due("seen()", x.seen(), 3);
        });
    }

    private static void seen() {
        says(11, "The length to which words are SEEN;", () -> {
            Words x = made(1, "", 0);
            for (int m : new int[] {1, 20, 7}) {
                x.see(m);
                due("seen()", x.seen(), m);
                x.see(0);
                due("seen() behind see(0)", x.seen(), m);
                x.see(21);
                due("seen() behind see(21)", x.seen(), m);
            }
            due("seen(), not CLOSED", notClosed().seen(), 8);
        });
        says(11, "NONE: nothing is.", () -> {
            due("seen() at first", new Words().seen(), NONE);
            Words x = closedOnes();
            x.law(0, 0);
            due("seen() behind law()", x.seen(), NONE);
            x.see(13);
            due("seen() behind see(13)", x.seen(), NONE);
            x.see(12);
            x.free();
            due("seen() behind free()", x.seen(), NONE);
            x.see(12);
            x.letters(2);
            due("seen() behind letters()", x.seen(), NONE);
            Words y = made(2, FORTY_ONE_RULES, 3);
            y.see(12);
            due("seen() behind a see() that is FULL", y.seen(), NONE);
        });
    }

    private static void least() {
        says(12, "How many STRINGS of at most the length SEEN are LEAST.", () -> {
            due("least() to 1", made(4, "", 1).least(), 5);
            due("least() of all", made(2, "", 12).least(), 8191);
            due("least() of that without LETTERS alone", made(4, "0=,1=,2=,3=", 6).least(), 1);
            due("least() of six", closedOnes().least(), 6);
            due("least() of six, not CLOSED", notClosed().least(), 7);
            // Four zeros are JOINED with nothing that short, though RULES would bring them to one.
            due("least(), not by RULES", made(1, "0=00000,000000=00000", 7).least(), 3);
        });
        says(12, "STATE: nothing is SEEN.", () -> {
            due("least() at first", new Words().least(), STATE);
            stays(EdgesTest::notSeen, "least()", x -> x.least(), STATE);
            Words y = made(2, FORTY_ONE_RULES, 3);
            y.see(12);
            due("least() behind a see() that is FULL", y.least(), STATE);
        });
    }

    private static void rule() {
        says(13, "LETTER i of a RULE's LEFT side (left), its RIGHT side;", () -> {
            Words x = closedOnes();
            due("LEFT side of RULE 2", side(x, 2, true), "101");
            due("RIGHT side of RULE 2", side(x, 2, false), "010");
            due("LEFT side of RULE 0", side(x, 0, true), "00");
            Words forty = made(2, FORTY_RULES, 11);
            due("rule(39, true, 10)", forty.rule(39, true, 10) >= 0 ? 1 : 0, 1);
            due("rule(40, true, 0)", forty.rule(40, true, 0), UNKNOWN);
            Words y = made(1, times("0", 12) + "=" + times("0", 11), 20);
            due("rule(0, true, 11)", y.rule(0, true, 11), 0);
            due("rule(0, false, 10)", y.rule(0, false, 10), 0);
            due("LEFT side of RULE 0, not CLOSED", side(notClosed(), 2, true), "0101");
        });
        says(13, "NONE.", () -> {
            Words x = closedOnes();
            for (int i : new int[] {-1, 3, 4, 32, 64, MIN, MAX}) {
                due("rule(2, true, " + i + ")", x.rule(2, true, i), NONE);
                due("rule(2, false, " + i + ")", x.rule(2, false, i), NONE);
            }
            due("rule(0, true, 2)", x.rule(0, true, 2), NONE);
            due("rule(0, false, 0) of no LETTERS", x.rule(0, false, 0), NONE);
        });
        says(13, "STATE;", () -> {
            for (int r : new int[] {0, -1, 40, MIN, MAX}) {
                stays(EdgesTest::notSeen, "rule(" + r + ", true, 0)", x -> x.rule(r, true, 0), STATE);
            }
            due("rule(0, false, -1)", new Words().rule(0, false, -1), STATE);
        });
        says(13, "UNKNOWN.", () -> {
            for (int r : new int[] {-1, 3, 39, 40, MIN, MAX}) {
                stays(EdgesTest::closedOnes, "rule(" + r + ", true, 0)", x -> x.rule(r, true, 0), UNKNOWN);
                stays(EdgesTest::closedOnes, "rule(" + r + ", false, -1)", x -> x.rule(r, false, -1), UNKNOWN);
            }
            due("rule(0, true, 0) without RULES", made(2, "", 1).rule(0, true, 0), UNKNOWN);
            Words x = closedOnes();
            x.see(1);
            due("rule(0, true, 0), when there are fewer RULES than before", x.rule(0, true, 0), UNKNOWN);
        });
    }

    private static void closed() {
        says(14, "Whether the RULES are CLOSED: 1, 0.", () -> {
            due("closed() without RULES", made(2, "", 1).closed(), 1);
            due("closed()", closedOnes().closed(), 1);
            due("closed()", notClosed().closed(), 0);
            Words x = made(1, "000=", 2);
            due("closed(), a LAW too long", x.closed(), 0);
            x.see(3);
            due("closed(), SEEN to more", x.closed(), 1);
            x.see(2);
            due("closed(), SEEN to less again", x.closed(), 0);
            x.see(0);
            due("closed() behind see(0)", x.closed(), 0);
            Words y = made(2, "01=0,10=1", 2);
            due("closed() of two RULES", y.closed(), 0);
            y.free();
            put(put(y, "01", 0), "0", 1).law(0, 1);
            due("see(2)", y.see(2), 1);
            due("closed() of one of them alone", y.closed(), 1);
        });
        says(14, "STATE.", () -> {
            due("closed() at first", new Words().closed(), STATE);
            stays(EdgesTest::notSeen, "closed()", x -> x.closed(), STATE);
            Words x = closedOnes();
            x.law(0, 0);
            due("closed() behind law()", x.closed(), STATE);
        });
    }

    private static void reduce() {
        says(15, "SLOT c gets what the STRING of SLOT a REDUCES to: how many LETTERS.", () -> {
            Words x = closedOnes();
            due("reduce(0, 4) of no LETTERS", x.reduce(0, 4), 0);
            due("reduce(2, 7)", x.reduce(2, 7), 3);
            due("SLOT 7", text(x, 7), "010");
            due("SLOT 2", text(x, 2), "1010110");
            due("reduce(3, 7) of sixty", x.reduce(3, 7), 0);
            due("SLOT 7", text(x, 7), "");
            due("reduce(2, 2), the same SLOT", x.reduce(2, 2), 3);
            due("SLOT 2", text(x, 2), "010");
            due("reduce(0, 2) of no LETTERS", x.reduce(0, 2), 0);
            due("SLOT 2", text(x, 2), "");
            due("total(3)", x.total(3), 2);
        });
        says(15, "UNKNOWN;", () -> {
            for (int k : NO_SLOTS) dueUnknown("reduce", x -> x.reduce(k, 2), x -> x.reduce(2, k), x -> x.reduce(3, k));
        });
        says(15, "STATE: nothing is SEEN,", () -> {
            stays(EdgesTest::notSeen, "reduce(2, 1)", x -> x.reduce(2, 1), STATE);
            stays(EdgesTest::notSeen, "reduce(0, 1) of no LETTERS", x -> x.reduce(0, 1), STATE);
            due("reduce(0, 0) at first", new Words().reduce(0, 0), STATE);
        });
        says(15, "or the RULES are not CLOSED, and the STRING is longer than what is SEEN", () -> {
            Supplier<Words> make = () -> put(notClosed(), "101010101", 4);
            stays(make, "reduce(4, 1) of nine", x -> x.reduce(4, 1), STATE);
            stays(make, "reduce(3, 1) of sixty", x -> x.reduce(3, 1), STATE);
            Words x = make.get();
            x.see(12);
            due("reduce(4, 1), CLOSED", x.reduce(4, 1), 3);
        });
        says(15, "(if it is not, and they are not CLOSED, it is the LEAST that is JOINED with it);", () -> {
            Words x = put(notClosed(), "10101010", 4);
            due("reduce(4, 5) of eight", x.reduce(4, 5), 2);
            due("SLOT 5", text(x, 5), "10");
            due("reduce(0, 5) of no LETTERS", x.reduce(0, 5), 0);
            put(x, "101", 4);
            due("reduce(4, 5), which is like 010, but not JOINED with it", x.reduce(4, 5), 3);
            due("SLOT 5", text(x, 5), "101");
            // As eight zeros are none, two are; but eight are longer than what is SEEN.
            Words y = put(made(1, "000000=,00000000=", 7), "000000", 1);
            due("closed()", y.closed(), 0);
            due("reduce(1, 2)", y.reduce(1, 2), 0);
            put(y, "0000000", 1);
            due("reduce(1, 2) of seven", y.reduce(1, 2), 1);
            put(y, "00000000", 1);
            due("reduce(1, 2) of eight", y.reduce(1, 2), STATE);
        });
        says(15, "FULL: a STRING on the way would be above 60.", () -> {
            // No RIGHT side is longer than its LEFT side, so that none of sixty becomes longer.
            Words x = made(2, "10=01", 2);
            put(x, times("1", 30) + times("0", 30), 1);
            due("reduce(1, 2) of sixty that stay sixty", x.reduce(1, 2), 60);
            due("SLOT 2", text(x, 2), times("0", 30) + times("1", 30));
            Words y = put(made(2, "", 1), times("1", 60), 1);
            due("reduce(1, 1) of sixty LEAST ones", y.reduce(1, 1), 60);
        });
    }

    private static void like() {
        says(16, "Whether STRINGS of two SLOTS REDUCE to like ones: 1, 0.", () -> {
            Words x = closedOnes();
            due("like(0, 0) of no LETTERS", x.like(0, 0), 1);
            due("like(0, 3) of none and sixty", x.like(0, 3), 1);
            due("like(3, 0) of sixty and none", x.like(3, 0), 1);
            due("like(1, 2)", x.like(1, 2), 0);
            due("like(2, 2)", x.like(2, 2), 1);
            due("SLOT 2", text(x, 2), "1010110");
            Words y = endless();
            put(y, times("01", 29) + "00", 4);
            due("like(3, 4), unlike at the last of sixty", y.like(3, 4), 0);
            put(y, times("01", 29) + "0", 4);
            due("like(3, 4), one is shorter", y.like(3, 4), 0);
            due("like(4, 3), one is shorter", y.like(4, 3), 0);
            Words z = put(notClosed(), "101", 4);
            put(z, "010", 5);
            due("like(4, 5), not JOINED", z.like(4, 5), 0);
        });
        says(16, "As reduce() (of a, then of b).", () -> {
            for (int k : NO_SLOTS) dueUnknown("like", x -> x.like(k, 2), x -> x.like(2, k), x -> x.like(k, 3), x -> x.like(3, k));
            stays(EdgesTest::notSeen, "like(0, 0), nothing SEEN", x -> x.like(0, 0), STATE);
            stays(EdgesTest::notClosed, "like(3, 1), not CLOSED", x -> x.like(3, 1), STATE);
            stays(EdgesTest::notClosed, "like(1, 3), not CLOSED", x -> x.like(1, 3), STATE);
            stays(EdgesTest::notClosed, "like(3, 3), not CLOSED", x -> x.like(3, 3), STATE);
            stays(EdgesTest::notClosed, "like(1, 2), not CLOSED, short", x -> x.like(1, 2), 0);
            stays(() -> put(notClosed(), times("0", 8), 4), "like(4, 0) of eight", x -> x.like(4, 0), 1);
            stays(() -> put(notClosed(), times("0", 9), 4), "like(4, 0) of nine", x -> x.like(4, 0), STATE);
            stays(() -> put(notClosed(), times("0", 9), 4), "like(0, 4) of nine", x -> x.like(0, 4), STATE);
        });
    }

    // ---- promises 17 to 27: the machine

    private static void states() {
        says(17, "How many STATES it has.", () -> {
            due("states() without RULES", made(2, "", 12).states(), 1);
            due("states() of LEFT sides of one LETTER each", made(4, "0=,1=,2=,3=", 6).states(), 1);
            due("states() of six", closedOnes().states(), 4);
            due("states() of two LEFT sides of twelve", made(2, "000000000000=,111111111111=", 12).states(), 23);
            Words x = notClosed();
            x.see(12);
            due("states(), SEEN to more, when there were more RULES", x.states(), 4);
            x.free();
            x.see(12);
            due("states() without RULES, when there were some", x.states(), 1);
        });
        says(17, "STATE.", () -> dueState("states()", x -> x.states()));
    }

    private static void leads() {
        says(18, "The STATE to which a LETTER leads;", () -> {
            Words x = made(4, "", 1);
            for (int l = 0; l < 4; l++) due("leads(0, " + l + ") without RULES", x.leads(0, l), 0);
            Words y = made(1, times("0", 12) + "=", 12);
            for (int state = 0; state < 11; state++) due("leads(" + state + ", 0)", y.leads(state, 0), state + 1);
        });
        says(18, "NONE: nowhere.", () -> {
            due("leads(11, 0)", made(1, times("0", 12) + "=", 12).leads(11, 0), NONE);
            due("leads(0, 0)", made(1, "0=", 20).leads(0, 0), NONE);
            due("leads(3, 0) of six", closedOnes().leads(3, 0), NONE);
            due("leads(3, 1) of six", closedOnes().leads(3, 1), NONE);
        });
        says(18, "STATE;", () -> {
            dueState("leads(0, 0)", x -> x.leads(0, 0));
            for (int state : new int[] {-1, 4, MIN, MAX}) dueState("leads(" + state + ", 0)", x -> x.leads(state, 0));
            for (int l : new int[] {-1, 2, MIN, MAX}) dueState("leads(0, " + l + ")", x -> x.leads(0, l));
        });
        says(18, "UNKNOWN.", () -> {
            // Times two the last ones are the places of STATES 0 and 1 again, but for what an int can't hold.
            for (int state : new int[] {-1, 4, 5, MIN, MAX, 1 << 31, (1 << 31) + 1, 1 << 30}) {
                stays(EdgesTest::closedOnes, "leads(" + state + ", 0)", x -> x.leads(state, 0), UNKNOWN);
                stays(EdgesTest::closedOnes, "leads(" + state + ", 1)", x -> x.leads(state, 1), UNKNOWN);
            }
            for (int l : new int[] {-1, 2, 3, MIN, MAX}) {
                stays(EdgesTest::closedOnes, "leads(0, " + l + ")", x -> x.leads(0, l), UNKNOWN);
                stays(EdgesTest::closedOnes, "leads(3, " + l + ")", x -> x.leads(3, l), UNKNOWN);
            }
            due("leads(1, 0) without RULES", made(2, "", 1).leads(1, 0), UNKNOWN);
            due("leads(0, 1) of one LETTER", made(1, "", 1).leads(0, 1), UNKNOWN);
        });
    }

    private static void count() {
        says(19, "How many LEAST STRINGS have m LETTERS.", () -> {
            Words x = closedOnes();
            long[] six = {1, 2, 2, 1, 0};
            for (int m = 0; m < six.length; m++) due("count(" + m + ") of six", x.count(m), six[m]);
            due("count(30) of six", x.count(30), 0);
            for (int n = 1; n <= 4; n++) {
                due("count(0) of all", made(n, "", 1).count(0), 1);
                due("count(30) of all", made(n, "", 1).count(30), power(n, 30));
            }
            Words none = made(2, "0=,1=", 1);
            due("count(0) of that without LETTERS alone", none.count(0), 1);
            due("count(1) of that without LETTERS alone", none.count(1), 0);
            due("count(30), the longest has 30", made(2, LONGEST_THIRTY, 12).count(30), 1);
            due("count(30), the longest has 31", made(2, LONGEST_THIRTY_ONE, 12).count(30), 3);
        });
        says(19, "OUTSIDE: m is not 0 .. 30;", () -> {
            for (int m : new int[] {-1, 31, 32, MIN, MAX}) {
                stays(EdgesTest::closedOnes, "count(" + m + ")", x -> x.count(m), OUTSIDE);
                stays(EdgesTest::notClosed, "count(" + m + "), not CLOSED", x -> x.count(m), OUTSIDE);
                stays(EdgesTest::notSeen, "count(" + m + "), nothing SEEN", x -> x.count(m), OUTSIDE);
            }
        });
        says(19, "STATE.", () -> {
            dueState("count(0)", x -> x.count(0));
            dueState("count(30)", x -> x.count(30));
        });
    }

    private static long power(long n, int k) {
        long all = 1;
        for (int i = 0; i < k; i++) all *= n;
        return all;
    }

    private static void size() {
        says(20, "How many LEAST STRINGS there are;", () -> {
            due("size() of that without LETTERS alone", made(4, "0=,1=,2=,3=", 6).size(), 1);
            due("size() of six", closedOnes().size(), 6);
            due("size(), the longest has 30", made(2, LONGEST_THIRTY, 12).size(), 1221);
        });
        says(20, "NONE: they are ENDLESS.", () -> {
            for (int n = 1; n <= 4; n++) due("size() of all", made(n, "", 1).size(), NONE);
            due("size(), one of each length", made(2, "1=", 1).size(), NONE);
            due("size(), two of each length", made(2, MIRRORS, 2).size(), NONE);
        });
        says(20, "STATE;", () -> {
            dueState("size()", x -> x.size());
            due("size() at first", new Words().size(), STATE);
        });
        says(20, "FULL: one has more than 30 LETTERS.", () -> {
            Words x = made(2, LONGEST_THIRTY_ONE, 12);
            due("size(), the longest has 31", x.size(), FULL);
            due("nth(1340, 1), the last of 30", x.nth(1340, 1), 30);
            due("size(), the longest has 30", made(2, LONGEST_THIRTY, 12).size(), 1221);
        });
    }

    private static void nth() {
        says(21, "A SLOT gets the i-th LEAST STRING in ORDER (0: without LETTERS): how many LETTERS.", () -> {
            Words x = filled(closedOnes());
            due("nth(0, 3)", x.nth(0, 3), 0);
            due("SLOT 3", text(x, 3), "");
            due("nth(5, 7), the last one", x.nth(5, 7), 3);
            due("SLOT 7", text(x, 7), "010");
            Words y = made(4, "", 1);
            long all = (power(4, 31) - 1) / 3;
            due("nth of the last one of 30", y.nth(all - 1, 0), 30);
            due("SLOT 0", text(y, 0), times("3", 30));
            due("nth of the first one of 30", y.nth(all - power(4, 30), 0), 30);
            due("SLOT 0", text(y, 0), times("0", 30));
            due("nth of the last one of 29", y.nth(all - power(4, 30) - 1, 0), 29);
            due("SLOT 0", text(y, 0), times("3", 29));
            Words z = made(2, "00=", 2);
            for (int i = 0; i < NO_TWO_ZEROS.length; i++) {
                z.nth(i, 0);
                due("the STRING of number " + i + ", no two zeros", text(z, 0), NO_TWO_ZEROS[i]);
            }
        });
        says(21, "UNKNOWN: SLOT;", () -> {
            for (int k : NO_SLOTS) {
                dueUnknown("nth", x -> x.nth(0, k), x -> x.nth(-1, k), x -> x.nth(Long.MAX_VALUE, k), x -> x.nth(Long.MIN_VALUE, k));
            }
        });
        says(21, "OUTSIDE: i is below 0;", () -> {
            for (long i : new long[] {-1, -2, MIN, -(1L << 32), Long.MIN_VALUE}) {
                stays(EdgesTest::closedOnes, "nth(" + i + ", 1)", x -> x.nth(i, 1), OUTSIDE);
                stays(EdgesTest::notClosed, "nth(" + i + ", 1), not CLOSED", x -> x.nth(i, 1), OUTSIDE);
                stays(EdgesTest::notSeen, "nth(" + i + ", 1), nothing SEEN", x -> x.nth(i, 1), OUTSIDE);
            }
        });
        says(21, "STATE;", () -> {
            dueState("nth(0, 1)", x -> x.nth(0, 1));
            dueState("nth(MAX, 1)", x -> x.nth(Long.MAX_VALUE, 1));
        });
        says(21, "NONE: it has more than 30 LETTERS, or there is none such.", () -> {
            stays(EdgesTest::closedOnes, "nth(6, 1), none such", x -> x.nth(6, 1), NONE);
            stays(EdgesTest::closedOnes, "nth(2^32 + 1, 1), none such", x -> x.nth((1L << 32) + 1, 1), NONE);
            stays(EdgesTest::closedOnes, "nth(MAX, 1), none such", x -> x.nth(Long.MAX_VALUE, 1), NONE);
            Supplier<Words> one = () -> put(made(1, "", 1), "00", 1);
            due("nth(30, 1) of one LETTER", one.get().nth(30, 1), 30);
            stays(one, "nth(31, 1) of one LETTER", x -> x.nth(31, 1), NONE);
            Supplier<Words> four = () -> put(made(4, "", 1), "32", 1);
            stays(four, "nth of the first one of 31", x -> x.nth((power(4, 31) - 1) / 3, 1), NONE);
            stays(four, "nth(MAX, 1)", x -> x.nth(Long.MAX_VALUE, 1), NONE);
            Supplier<Words> thirtyOne = () -> put(made(2, LONGEST_THIRTY_ONE, 12), "01", 1);
            due("nth(1340, 1)", thirtyOne.get().nth(1340, 1), 30);
            stays(thirtyOne, "nth(1341, 1), which has 31", x -> x.nth(1341, 1), NONE);
        });
    }

    private static void rank() {
        says(22, "The number of what the STRING of a SLOT REDUCES to among LEAST STRINGS.", () -> {
            Words x = closedOnes();
            due("rank(0) of no LETTERS", x.rank(0), 0);
            due("rank(3) of sixty that become none", x.rank(3), 0);
            due("rank(2)", x.rank(2), 5);
            due("SLOT 2", text(x, 2), "1010110");
            Words y = put(made(4, "", 1), times("3", 30), 1);
            due("rank of the last of 30", y.rank(1), (power(4, 31) - 1) / 3 - 1);
            put(y, times("0", 30), 1);
            due("rank of the first of 30", y.rank(1), (power(4, 30) - 1) / 3);
            Words z = made(2, "00=", 2);
            for (int i = 0; i < NO_TWO_ZEROS.length; i++) {
                put(z, NO_TWO_ZEROS[i], 1);
                due("rank of " + NO_TWO_ZEROS[i] + ", no two zeros", z.rank(1), i);
            }
        });
        says(22, "UNKNOWN;", () -> {
            for (int k : NO_SLOTS) dueUnknown("rank", x -> x.rank(k));
        });
        says(22, "STATE;", () -> {
            dueState("rank(0)", x -> x.rank(0));
            dueState("rank(3) of sixty", x -> x.rank(3));
        });
        says(22, "FULL: as reduce(), or that has more than 30 LETTERS.", () -> {
            due("rank of 30", put(made(1, "", 1), times("0", 30), 1).rank(1), 30);
            stays(() -> put(made(1, "", 1), times("0", 31), 1), "rank(1) of 31", x -> x.rank(1), FULL);
            stays(EdgesTest::endless, "rank(3) of sixty", x -> x.rank(3), FULL);
            due("rank of sixty that become 30", put(made(2, "1=", 1), times("01", 30), 1).rank(1), 30);
            due("rank of sixty that become 31", put(made(2, "1=", 1), times("01", 29) + "00", 1).rank(1), FULL);
        });
    }

    private static void power() {
        says(23, "SLOT c gets what the STRING of SLOT a, k times, REDUCES to (what the STRING REDUCES to put behind what came so "
                + "far, that REDUCED, and so on): how many LETTERS.", () -> {
            Words x = made(1, "0000000=", 20);
            put(x, "000", 1);
            put(x, times("0", 59), 2);
            due("power(1, 0, 3)", x.power(1, 0, 3), 0);
            due("power(1, 1, 3)", x.power(1, 1, 3), 3);
            due("power(1, 99, 3)", x.power(1, 99, 3), 3);
            due("power(1, 100, 3)", x.power(1, 100, 3), 6);
            due("length(3)", x.length(3), 6);
            due("power(2, 100, 3) of 59 that become three", x.power(2, 100, 3), 6);
            due("power(0, 100, 3) of no LETTERS", x.power(0, 100, 3), 0);
            due("power(1, 2, 1), the same SLOT", x.power(1, 2, 1), 6);
            due("SLOT 1", text(x, 1), "000000");
            due("power(1, 0, 1), none of it", x.power(1, 0, 1), 0);
            due("SLOT 1", text(x, 1), "");
            Words y = put(made(2, "11=", 3), "10", 1);
            due("power(1, 3, 2)", y.power(1, 3, 2), 6);
            due("SLOT 2, not reduced where it is LEAST", text(y, 2), "101010");
        });
        says(23, "UNKNOWN;", () -> {
            for (int k : NO_SLOTS) {
                dueUnknown("power", x -> x.power(k, 2, 1), x -> x.power(1, 2, k), x -> x.power(k, 101, 1), x -> x.power(1, -1, k));
            }
        });
        says(23, "OUTSIDE: k is not 0 .. 100;", () -> {
            for (int k : new int[] {-1, 101, 102, MIN, MAX}) {
                stays(EdgesTest::closedOnes, "power(2, " + k + ", 1)", x -> x.power(2, k, 1), OUTSIDE);
                stays(EdgesTest::notClosed, "power(2, " + k + ", 1), not CLOSED", x -> x.power(2, k, 1), OUTSIDE);
                stays(EdgesTest::notSeen, "power(2, " + k + ", 1), nothing SEEN", x -> x.power(2, k, 1), OUTSIDE);
                stays(EdgesTest::endless, "power(3, " + k + ", 1), above 60 too", x -> x.power(3, k, 1), OUTSIDE);
            }
        });
        says(23, "STATE;", () -> {
            dueState("power(2, 2, 1)", x -> x.power(2, 2, 1));
            dueState("power(2, 0, 1)", x -> x.power(2, 0, 1));
            dueState("power(3, 100, 1)", x -> x.power(3, 100, 1));
        });
        says(23, "FULL: one of those put together would be above 60 (likewise below).", () -> {
            for (int many : new int[] {1, 2, 3, 4, 5, 6, 10, 12, 15, 20, 30, 60}) {
                Supplier<Words> make = () -> put(put(made(2, "", 1), times("1", many), 1), "01", 2);
                due("power of " + many + " to sixty", make.get().power(1, 60 / many, 2), 60);
                stays(make, "power of " + many + ", once more", x -> x.power(1, 60 / many + 1, 2), FULL);
                stays(make, "power of " + many + ", a hundred times", x -> x.power(1, 100, 2), FULL);
            }
            // What is put together undoes itself, but has 62 LETTERS till it is REDUCED.
            due("power of 29, twice", put(made(2, MIRRORS, 2), times("01", 14) + "0", 1).power(1, 2, 2), 0);
            stays(() -> put(made(2, MIRRORS, 2), times("01", 15) + "0", 1), "power of 31, twice", x -> x.power(1, 2, 1), FULL);
            due("power of 31, once", put(made(2, MIRRORS, 2), times("01", 15) + "0", 1).power(1, 1, 2), 31);
            // Sixty that become one go on till that has come to sixty.
            Supplier<Words> one = () -> put(made(2, "1=", 1), times("1", 59) + "0", 1);
            due("power of sixty that become one", one.get().power(1, 60, 2), 60);
            stays(one, "power of sixty that become one, 61 times", x -> x.power(1, 61, 2), FULL);
        });
    }

    private static void order() {
        says(24, "The least k of 1 .. 100 so that the STRING of a SLOT, k times, REDUCES to no LETTERS;", () -> {
            Words x = closedOnes();
            due("order(0) of no LETTERS", x.order(0), 1);
            due("order(3) of sixty that become none", x.order(3), 1);
            due("order(2)", x.order(2), 2);
            due("order(1)", x.order(1), 3);
            due("SLOT 1", text(x, 1), "01");
            due("power(1, 1, 4)", x.power(1, 1, 4), 2);
            due("order(1), behind what was put together before", x.order(1), 3);
            due("order of a hundred", put(made(2, "0000000000=1,1111111111=", 12), "0", 1).order(1), 100);
            due("order of 99", put(made(2, "00000000000=1,111111111=", 12), "0", 1).order(1), 99);
        });
        says(24, "NONE: there is none.", () -> {
            due("order of 110", put(made(2, "00000000000=1,1111111111=", 12), "0", 1).order(1), NONE);
            due("order of what stays", put(made(2, "00=0", 4), "0", 1).order(1), NONE);
            stays(() -> put(made(2, "00=0", 4), "0", 1), "order of what stays", x -> x.order(1), NONE);
        });
        says(24, "UNKNOWN;", () -> {
            for (int k : NO_SLOTS) dueUnknown("order", x -> x.order(k));
        });
        says(24, "STATE;", () -> {
            dueState("order(1)", x -> x.order(1));
            dueState("order(0) of no LETTERS", x -> x.order(0));
            dueState("order(3) of sixty", x -> x.order(3));
        });
        says(24, "FULL.", () -> {
            stays(EdgesTest::endless, "order(1)", x -> x.order(1), FULL);
            stays(EdgesTest::endless, "order(3) of sixty", x -> x.order(3), FULL);
            due("order of 29", put(made(2, MIRRORS, 2), times("01", 14) + "0", 1).order(1), 2);
            due("order of 31, which undo themselves", put(made(2, MIRRORS, 2), times("01", 15) + "0", 1).order(1), FULL);
            due("order of what comes to sixty and no more", put(made(1, "", 1), times("0", 60), 1).order(1), FULL);
        });
    }

    private static void inverse() {
        says(25, "SLOT c gets the first LEAST STRING in ORDER", () -> {
            Words x = closedOnes();
            due("inverse(0, 1) of no LETTERS", x.inverse(0, 1), 0);
            due("SLOT 1", text(x, 1), "");
            due("inverse(3, 2) of sixty that become none", x.inverse(3, 2), 0);
            put(x, "01", 1);
            due("inverse(1, 7)", x.inverse(1, 7), 2);
            due("SLOT 7", text(x, 7), "10");
            due("SLOT 1", text(x, 1), "01");
            due("inverse(1, 1), the same SLOT", x.inverse(1, 1), 2);
            due("SLOT 1", text(x, 1), "10");
            Words y = put(made(3, "01=,02=", 2), "0", 1);
            due("inverse(1, 2), where there are two", y.inverse(1, 2), 1);
            due("SLOT 2", text(y, 2), "1");
        });
        says(25, "(of the first 2000,", () -> {
            Supplier<Words> make = () -> made(4, "01=,10=,23=,32=", 2);
            for (int number = 1998; number <= 2001; number++) {
                Words x = make.get();
                x.nth(number, 1);
                String s = text(x, 1);
                put(x, undone(s), 2);
                due("inverse that is number " + number + " from 0 on", x.inverse(2, 3), number < 2000 ? 7 : NONE);
                due("SLOT 3", text(x, 3), number < 2000 ? s : "");
            }
        });
        says(25, "and of 30 LETTERS at most)", () -> {
            // There are fewer than 400 LEAST STRINGS of at most 30 LETTERS.
            Words x = put(made(2, ELEVEN, 12), "000111", 1);
            due("closed()", x.closed(), 1);
            due("inverse(1, 2) of thirty", x.inverse(1, 2), 30);
            due("SLOT 2", text(x, 2), times("0", 30));
            put(x, "00111", 1);
            due("inverse(1, 2), which would have 31", x.inverse(1, 2), NONE);
            due("SLOT 2", text(x, 2), times("0", 30));
            Words y = put(made(2, MIRRORS, 2), times("01", 15), 1);
            due("inverse(1, 2) of thirty behind thirty", y.inverse(1, 2), 30);
            due("SLOT 2", text(y, 2), times("10", 15));
        });
        says(25, "that, behind what the STRING of SLOT a REDUCES to, REDUCES to no LETTERS: how many LETTERS;", () -> {
            Words x = put(put(made(2, "01=", 2), "0", 1), "1", 2);
            due("inverse(1, 3), one is behind", x.inverse(1, 3), 1);
            due("inverse(2, 4), one is ahead alone", x.inverse(2, 4), NONE);
            put(x, times("01", 29) + "00", 1);
            due("inverse(1, 3) of sixty that become two", x.inverse(1, 3), 2);
            due("SLOT 3", text(x, 3), "11");
        });
        says(25, "NONE: there is none.", () -> {
            stays(EdgesTest::endless, "inverse(1, 2)", x -> x.inverse(1, 2), NONE);
            stays(() -> put(made(2, "00=0", 2), "0", 1), "inverse(1, 1) of what stays", x -> x.inverse(1, 1), NONE);
            stays(() -> put(made(1, "00=0", 2), "0", 1), "inverse(1, 1), two LEAST ones", x -> x.inverse(1, 1), NONE);
        });
        says(25, "UNKNOWN;", () -> {
            for (int k : NO_SLOTS) dueUnknown("inverse", x -> x.inverse(k, 1), x -> x.inverse(1, k), x -> x.inverse(3, k));
        });
        says(25, "STATE;", () -> {
            dueState("inverse(1, 2)", x -> x.inverse(1, 2));
            dueState("inverse(0, 0) of no LETTERS", x -> x.inverse(0, 0));
            dueState("inverse(3, 2) of sixty", x -> x.inverse(3, 2));
        });
        says(25, "FULL.", () -> {
            stays(EdgesTest::endless, "inverse(3, 1) of sixty", x -> x.inverse(3, 1), FULL);
            // The first 2000 of two LETTERS have ten at most.
            stays(() -> put(made(2, "", 1), times("0", 50), 1), "inverse of fifty", x -> x.inverse(1, 1), NONE);
            stays(() -> put(made(2, "", 1), times("0", 51), 1), "inverse of 51", x -> x.inverse(1, 1), FULL);
            stays(() -> put(made(1, "", 1), times("0", 30), 1), "inverse of thirty", x -> x.inverse(1, 1), NONE);
            stays(() -> put(made(1, "", 1), times("0", 31), 1), "inverse of 31", x -> x.inverse(1, 1), FULL);
            stays(() -> put(made(2, MIRRORS, 2), times("01", 15) + "0", 1), "inverse of 31, which undo themselves",
                    x -> x.inverse(1, 1), FULL);
            // Found before what is put together would be above sixty.
            due("inverse of 55", put(made(2, ELEVEN, 12), times("0", 55), 1).inverse(1, 2), 5);
            stays(() -> put(made(2, ELEVEN, 12), times("0", 56), 1), "inverse of 56", x -> x.inverse(1, 2), FULL);
        });
    }

    /** Where 0 and 1 undo each other, and 2 and 3 do. */
    private static String undone(String s) {
        StringBuilder t = new StringBuilder();
        for (int i = s.length() - 1; i >= 0; i--) t.append((s.charAt(i) - '0') ^ 1);
        return t.toString();
    }

    private static void makes() {
        says(26, "How many LEAST STRINGS come of that without LETTERS by putting what the STRINGS of two SLOTS REDUCE to behind, one "
                + "or the other, REDUCED, any often: 300 at most.", () -> {
            Words x = closedOnes();
            due("makes(0, 0) of no LETTERS", x.makes(0, 0), 1);
            due("makes(3, 0) of sixty that become none", x.makes(3, 0), 1);
            due("makes(0, 1)", x.makes(0, 1), 3);
            due("makes(1, 0)", x.makes(1, 0), 3);
            due("makes(1, 1), the same SLOT", x.makes(1, 1), 3);
            due("makes(1, 2)", x.makes(1, 2), 6);
            due("SLOT 2", text(x, 2), "1010110");
            due("makes of 300", ofTwo("000000000000=,111111111=1,100=001,1011=1101,1010=0101"), 300);
            Words long31 = put(put(made(2, LONGEST_THIRTY_ONE, 12), "100", 1), "1111111111000", 2);
            due("makes(1, 2), of which one has 31 LETTERS", long31.makes(1, 2), 113);
            due("makes of what does not come back to no LETTERS", put(made(1, "00=0", 2), "0", 1).makes(1, 1), 2);
        });
        says(26, "UNKNOWN;", () -> {
            for (int k : NO_SLOTS) dueUnknown("makes", x -> x.makes(k, 1), x -> x.makes(1, k), x -> x.makes(3, k));
        });
        says(26, "STATE;", () -> {
            dueState("makes(1, 2)", x -> x.makes(1, 2));
            dueState("makes(0, 0) of no LETTERS", x -> x.makes(0, 0));
            dueState("makes(3, 3) of sixty", x -> x.makes(3, 3));
        });
        says(26, "FULL: more than 300, or as power().", () -> {
            due("makes of 301", ofTwo("01=101,0000000=00,1111111=11"), FULL);
            stays(EdgesTest::endless, "makes(0, 1)", x -> x.makes(0, 1), FULL);
            stays(EdgesTest::endless, "makes(3, 0) of sixty", x -> x.makes(3, 0), FULL);
            stays(EdgesTest::endless, "makes(0, 3) of sixty", x -> x.makes(0, 3), FULL);
            due("makes of 29", put(made(2, MIRRORS, 2), times("01", 14) + "0", 1).makes(1, 1), 2);
            due("makes of 31, which would be two", put(made(2, MIRRORS, 2), times("01", 15) + "0", 1).makes(1, 1), FULL);
        });
    }

    private static int ofTwo(String laws) {
        return put(put(made(2, laws, 12), "0", 1), "1", 2).makes(1, 2);
    }

    private static void total() {
        says(27, "0 LETTERS,", () -> {
            Words x = new Words();
            due("total(0) at first", x.total(0), 2);
            for (int n = 1; n <= 4; n++) {
                x.letters(n);
                due("total(0)", x.total(0), n);
            }
        });
        says(27, "1 LAWS,", () -> {
            Words x = new Words();
            due("total(1) at first", x.total(1), 0);
            for (int i = 1; i <= 9; i++) {
                x.law(0, 0);
                due("total(1)", x.total(1), Math.min(i, 8));
            }
        });
        says(27, "2 RULES (0: nothing is SEEN),", () -> {
            due("total(2) at first", new Words().total(2), 0);
            due("total(2) without RULES", made(2, "", 1).total(2), 0);
            due("total(2)", closedOnes().total(2), 3);
            due("total(2), not CLOSED", notClosed().total(2), 4);
            due("total(2), nothing SEEN", notSeen().total(2), 0);
            due("total(2) of forty", made(2, FORTY_RULES, 11).total(2), 40);
            due("total(2) behind a see() that is FULL", made(2, FORTY_ONE_RULES, 12).total(2), 0);
            Words x = closedOnes();
            x.law(0, 0);
            due("total(2) behind law()", x.total(2), 0);
        });
        says(27, "3 LETTERS of THE STRING.", () -> {
            Words x = new Words();
            due("total(3) at first", x.total(3), 0);
            for (int i = 1; i <= 61; i++) {
                x.letter(1);
                due("total(3)", x.total(3), Math.min(i, 60));
            }
            x.slot(0);
            due("total(3) behind slot()", x.total(3), 0);
        });
        says(27, "OUTSIDE.", () -> {
            for (int what : new int[] {-1, 4, 5, MIN, MAX}) {
                stays(EdgesTest::notSeen, "total(" + what + ")", x -> x.total(what), OUTSIDE);
                stays(EdgesTest::notClosed, "total(" + what + ")", x -> x.total(what), OUTSIDE);
                stays(EdgesTest::closedOnes, "total(" + what + ")", x -> x.total(what), OUTSIDE);
            }
        });
    }

    public static void main(String[] args) throws Exception {
        readDocument();
        use();
        refusals();
        wordsAndLaws();
        toSee();
        toBeClosed();
        theMachine();
        newObject();
        letters();
        letter();
        clear();
        slot();
        at();
        length();
        law();
        free();
        see();
        seen();
        least();
        rule();
        closed();
        reduce();
        like();
        states();
        leads();
        count();
        size();
        nth();
        rank();
        power();
        order();
        inverse();
        makes();
        total();
        tellWhatIsNotQuoted(USE);
        tellWhatIsNotQuoted(TERMS);
        for (int promise = 1; promise <= 27; promise++) tellWhatIsNotQuoted("Promise " + promise);
        System.out.println(sentences + " sentences, " + compared + " answers: "
                + (wrong == 0 ? "all are as due" : wrong + " are not as due"));
        if (wrong != 0) System.exit(1);
    }
}
