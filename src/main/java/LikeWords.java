/**
 * Words under laws: what is like what, the rules that bring each word to the least like it,
 * and the machine that takes just the least ones. The document's promises say what each call answers.
 *
 * All rows are made with the object and used again; only the Grower, which few laws ask for, is made by
 * the call that first needs it.
 */
public final class LikeWords {
    public static final int UNKNOWN = -1, OUTSIDE = -2, STATE = -3, FULL = -4, NONE = -9;

    private static final int SLOT_COUNT = 8;
    private static final int WORD_ROOM = 60;
    private static final int LAW_COUNT = 8;
    private static final int LAW_ROOM = 12;
    private static final int LETTERS_AT_FIRST = 2;
    private static final int MOST_LETTERS = 4;
    private static final int LONGEST_SEEN = 20;
    private static final int MOST_SEEN = 10000;
    private static final int RULE_COUNT = 40;
    private static final int LONGEST_COUNTED = 30;
    private static final int MOST_TIMES = 100;
    private static final int INVERSES_TRIED = 2000;
    private static final int MOST_MADE = 300;

    /**
     * Forty LEFT sides of two LETTERS have at most 1 + 2 + 4 + 8 + 16 + 32 + 6 * 40 = 303 beginnings,
     * and fewer of other numbers of LETTERS; times the LETTERS it is at most 606.
     */
    private static final int STATE_ROOM = 320;
    private static final int STEP_ROOM = 640;

    /**
     * LETTERS that are read at most on the plain way of one STRING. Ordinary laws need some thousands; a few
     * double the way with each LETTER, and what is left of it then is the Grower's.
     */
    private static final int PLAIN_TURNS = 20000;

    /** Fewer than 2000 LEAST STRINGS have been passed when the next one is sought: this is far above. */
    private static final int MOST_TURNS = 1000000;

    private final Scale scale;
    private final Word string;
    private final Word[] slots;
    private final Word[] lawSides;
    private final Joins joins;
    private final Rules rules;
    private final Machine machine;
    private final Rewriter rewriter;
    private final Proof proof;
    private final Walk walk;
    private final Made made;
    private final Word first;
    private final Word second;
    private final Word sum;
    private int lawsHeld;
    private int seenTo;
    private boolean proved;

    public LikeWords() {
        scale = new Scale(LETTERS_AT_FIRST);
        string = new Word(WORD_ROOM);
        slots = new Word[SLOT_COUNT];
        for (int i = 0; i < SLOT_COUNT; i++) {
            slots[i] = new Word(WORD_ROOM);
        }
        lawSides = new Word[2 * LAW_COUNT];
        for (int i = 0; i < 2 * LAW_COUNT; i++) {
            lawSides[i] = new Word(LAW_ROOM);
        }
        joins = new Joins();
        rules = new Rules(scale);
        machine = new Machine(scale, rules);
        rewriter = new Rewriter(rules, machine);
        first = new Word(WORD_ROOM);
        second = new Word(WORD_ROOM);
        sum = new Word(WORD_ROOM);
        proof = new Proof(rules, rewriter, first, second);
        walk = new Walk(machine);
        made = new Made();
    }

    // ---- words, laws

    public int letters(int n) {
        if (n < 1 || n > MOST_LETTERS) {
            return OUTSIDE;
        }
        int before = scale.letterCount;
        scale.setLetters(n);
        string.wipe();
        for (int i = 0; i < SLOT_COUNT; i++) {
            slots[i].wipe();
        }
        lawsHeld = 0;
        forget();
        return before;
    }

    public int letter(int l) {
        if (!isLetter(l)) {
            return UNKNOWN;
        }
        return string.push(l) ? string.used : FULL;
    }

    public int clear() {
        int before = string.used;
        string.wipe();
        return before;
    }

    public int slot(int k) {
        if (!isSlot(k)) {
            return UNKNOWN;
        }
        slots[k].take(string);
        string.wipe();
        return slots[k].used;
    }

    public int at(int slot, int i) {
        return isSlot(slot) ? slots[slot].pick(i) : UNKNOWN;
    }

    public int length(int slot) {
        return isSlot(slot) ? slots[slot].used : UNKNOWN;
    }

    public int law(int a, int b) {
        if (!isSlot(a) || !isSlot(b)) {
            return UNKNOWN;
        }
        if (slots[a].used > LAW_ROOM || slots[b].used > LAW_ROOM) {
            return STATE;
        }
        if (lawsHeld >= LAW_COUNT) {
            return FULL;
        }
        lawSides[2 * lawsHeld].take(slots[a]);
        lawSides[2 * lawsHeld + 1].take(slots[b]);
        lawsHeld++;
        forget();
        return lawsHeld;
    }

    public int free() {
        int before = lawsHeld;
        lawsHeld = 0;
        forget();
        return before;
    }

    // ---- what is seen

    public int see(int m) {
        if (m < 1 || m > scale.longest) {
            return OUTSIDE;
        }
        forget();
        joins.begin(scale.countTo(m));
        for (int i = 0; i < lawsHeld; i++) {
            joins.joinByLaw(lawSides[2 * i], lawSides[2 * i + 1], scale, m);
        }
        joins.settle();
        if (!rules.gather(joins, m)) {
            return FULL;
        }
        machine.build();
        rewriter.forget();
        proved = proof.holds(lawSides, lawsHeld);
        if (proved) {
            machine.tally();
        }
        seenTo = m;
        return rules.held;
    }

    public int seen() {
        return isSeen() ? seenTo : NONE;
    }

    public int least() {
        return isSeen() ? joins.groups : STATE;
    }

    public int rule(int r, boolean left, int i) {
        if (!isSeen()) {
            return STATE;
        }
        if (!rules.has(r)) {
            return UNKNOWN;
        }
        return i >= 0 && i < rules.spanOf(r, left) ? rules.signAt(r, left, i) : NONE;
    }

    public int closed() {
        if (!isSeen()) {
            return STATE;
        }
        return proved ? 1 : 0;
    }

    public int reduce(int a, int c) {
        if (!isSlot(a) || !isSlot(c)) {
            return UNKNOWN;
        }
        int got = bringDown(slots[a], first);
        if (got >= 0) {
            slots[c].take(first);
        }
        return got;
    }

    public int like(int a, int b) {
        if (!isSlot(a) || !isSlot(b)) {
            return UNKNOWN;
        }
        int got = bringDown(slots[a], first);
        if (got < 0) {
            return got;
        }
        got = bringDown(slots[b], second);
        if (got < 0) {
            return got;
        }
        return first.isSame(second) ? 1 : 0;
    }

    // ---- the machine

    public int states() {
        return isProved() ? machine.held : STATE;
    }

    public int leads(int state, int l) {
        if (!isProved()) {
            return STATE;
        }
        if (!machine.has(state) || !isLetter(l)) {
            return UNKNOWN;
        }
        int next = machine.step(state, l);
        return next >= 0 ? next : NONE;
    }

    public long count(int m) {
        if (m < 0 || m > LONGEST_COUNTED) {
            return OUTSIDE;
        }
        return isProved() ? machine.counts[m] : STATE;
    }

    public long size() {
        if (!isProved()) {
            return STATE;
        }
        if (machine.endless) {
            return NONE;
        }
        return machine.counts[LONGEST_COUNTED + 1] > 0 ? FULL : machine.countBelow(LONGEST_COUNTED + 1);
    }

    public int nth(long i, int slot) {
        if (!isSlot(slot)) {
            return UNKNOWN;
        }
        if (i < 0) {
            return OUTSIDE;
        }
        if (!isProved()) {
            return STATE;
        }
        return machine.writeNumber(i, slots[slot]) ? slots[slot].used : NONE;
    }

    public long rank(int slot) {
        if (!isSlot(slot)) {
            return UNKNOWN;
        }
        if (!isProved()) {
            return STATE;
        }
        if (!rewriter.run(slots[slot], first) || first.used > LONGEST_COUNTED) {
            return FULL;
        }
        return machine.numberOf(first);
    }

    public int power(int a, int k, int c) {
        if (!isSlot(a) || !isSlot(c)) {
            return UNKNOWN;
        }
        if (k < 0 || k > MOST_TIMES) {
            return OUTSIDE;
        }
        if (!isProved()) {
            return STATE;
        }
        if (!rewriter.run(slots[a], first)) {
            return FULL;
        }
        sum.wipe();
        for (int i = 0; i < k; i++) {
            if (!putBehind(first)) {
                return FULL;
            }
        }
        slots[c].take(sum);
        return sum.used;
    }

    public int order(int slot) {
        if (!isSlot(slot)) {
            return UNKNOWN;
        }
        if (!isProved()) {
            return STATE;
        }
        if (!rewriter.run(slots[slot], first)) {
            return FULL;
        }
        sum.wipe();
        for (int k = 1; k <= MOST_TIMES; k++) {
            if (!putBehind(first)) {
                return FULL;
            }
            if (sum.used == 0) {
                return k;
            }
        }
        return NONE;
    }

    public int inverse(int a, int c) {
        if (!isSlot(a) || !isSlot(c)) {
            return UNKNOWN;
        }
        if (!isProved()) {
            return STATE;
        }
        if (!rewriter.run(slots[a], first)) {
            return FULL;
        }
        walk.begin();
        for (int i = 0; i < INVERSES_TRIED; i++) {
            if (i > 0 && !walk.advance()) {
                return NONE;
            }
            sum.take(first);
            if (!putBehind(walk.word)) {
                return FULL;
            }
            if (sum.used == 0) {
                slots[c].take(walk.word);
                return walk.word.used;
            }
        }
        return NONE;
    }

    public int makes(int a, int b) {
        if (!isSlot(a) || !isSlot(b)) {
            return UNKNOWN;
        }
        if (!isProved()) {
            return STATE;
        }
        if (!rewriter.run(slots[a], first) || !rewriter.run(slots[b], second)) {
            return FULL;
        }
        made.begin();
        for (int i = 0; i < MOST_MADE && i < made.held; i++) {
            if (!makeFrom(i, first) || !makeFrom(i, second)) {
                return FULL;
            }
        }
        return made.held;
    }

    public int total(int what) {
        switch (what) {
            case 0:
                return scale.letterCount;
            case 1:
                return lawsHeld;
            case 2:
                return isSeen() ? rules.held : 0;
            case 3:
                return string.used;
            default:
                return OUTSIDE;
        }
    }

    // ---- what the calls share

    private boolean isSlot(int k) {
        return k >= 0 && k < SLOT_COUNT;
    }

    private boolean isLetter(int l) {
        return l >= 0 && l < scale.letterCount;
    }

    private boolean isSeen() {
        return seenTo > 0;
    }

    private boolean isProved() {
        return isSeen() && proved;
    }

    private void forget() {
        seenTo = 0;
        proved = false;
    }

    /** What a STRING REDUCES to, and how many LETTERS it has; or the refusal. */
    private int bringDown(Word source, Word target) {
        if (!isSeen() || (!proved && source.used > seenTo)) {
            return STATE;
        }
        if (!proved) {
            scale.write(joins.leastOf(scale.numberOf(source)), target);
            return target.used;
        }
        return rewriter.run(source, target) ? target.used : FULL;
    }

    /** A STRING comes behind the sum, which is REDUCED; false if it does not go. */
    private boolean putBehind(Word part) {
        return sum.append(part) && rewriter.run(sum, sum);
    }

    private boolean makeFrom(int i, Word part) {
        made.read(i, sum);
        return putBehind(part) && made.add(sum);
    }

    /**
     * A STRING with room for so many LETTERS. It may be told by two longs, its head and its tail: behind a 1
     * thirty LETTERS in each, of two bits.
     */
    private static final class Word {
        static final int HALF = 30;
        final int[] signs;
        int used;

        Word(int room) {
            signs = new int[Math.max(room, 0)];
        }

        void wipe() {
            used = 0;
        }

        boolean push(int sign) {
            if (used < 0 || used >= signs.length) {
                return false;
            }
            signs[used++] = sign;
            return true;
        }

        int dropLast() {
            if (used <= 0 || used > signs.length) {
                return NONE;
            }
            used--;
            return signs[used];
        }

        int pick(int i) {
            return i >= 0 && i < used && i < signs.length ? signs[i] : NONE;
        }

        void take(Word other) {
            used = Math.min(other.used, signs.length);
            for (int i = 0; i < used; i++) {
                signs[i] = other.signs[i];
            }
        }

        boolean append(Word other) {
            if (used + other.used > signs.length) {
                return false;
            }
            for (int i = 0; i < other.used; i++) {
                signs[used++] = other.signs[i];
            }
            return true;
        }

        /** LETTERS of another STRING from a place on leave it, the last one first; how many. */
        int drawFrom(Word other, int from) {
            int before = used;
            while (other.used > from && other.used > 0 && used < signs.length) {
                other.used--;
                signs[used++] = other.signs[other.used];
            }
            return used - before;
        }

        boolean isSame(Word other) {
            if (used != other.used) {
                return false;
            }
            for (int i = 0; i < used; i++) {
                if (signs[i] != other.signs[i]) {
                    return false;
                }
            }
            return true;
        }

        /** LETTERS from .. to - 1, of these the first HALF. */
        long pack(int from, int to) {
            long packed = 1;
            for (int i = from < 0 ? 0 : from; i < used && i < to && i < from + HALF; i++) {
                packed = packed * 4 + signs[i];
            }
            return packed;
        }

        void unpack(long head, long tail) {
            used = 0;
            for (int part = 0; part < 2; part++) {
                long packed = part == 0 ? head : tail;
                int many = 0;
                while (many < HALF && (packed >> (2 * many)) > 1) {
                    many++;
                }
                for (int k = many - 1; k >= 0 && used < signs.length; k--) {
                    signs[used++] = (int) ((packed >> (2 * k)) & 3);
                }
            }
        }
    }

    /**
     * The ORDER as numbers: STRINGS short enough to be seen are numbered from 0, so that a lesser
     * number is ahead. Within its length a STRING is told by its value, a number to the base of LETTERS.
     */
    private static final class Scale {
        private final int[] powers;
        private final int[] firsts;
        int letterCount;
        int longest;

        Scale(int n) {
            powers = new int[LONGEST_SEEN + 1];
            firsts = new int[LONGEST_SEEN + 2];
            setLetters(n);
        }

        void setLetters(int n) {
            letterCount = Math.max(n, 1);
            int before = 0;
            int power = 1;
            for (int k = 0; k <= LONGEST_SEEN && before + power <= MOST_SEEN; k++) {
                powers[k] = power;
                firsts[k] = before;
                before += power;
                power *= letterCount;
                longest = k;
                firsts[k + 1] = before;
            }
        }

        /** How many STRINGS have just so many LETTERS; never 0, so that it may divide. */
        int powerOf(int span) {
            return span >= 0 && span <= longest ? powers[span] : 1;
        }

        int firstOf(int span) {
            return span >= 0 && span <= longest ? firsts[span] : 0;
        }

        int countTo(int span) {
            return span >= 0 && span <= longest ? firsts[span + 1] : 0;
        }

        int spanOf(int number) {
            int span = 0;
            while (span < longest && firsts[span + 1] <= number) {
                span++;
            }
            return span;
        }

        int valueOf(Word word) {
            int value = 0;
            for (int i = 0; i < word.used; i++) {
                value = value * letterCount + word.signs[i];
            }
            return value;
        }

        int numberOf(Word word) {
            return firstOf(word.used) + valueOf(word);
        }

        /** The LETTERS of a STRING as two bits each, the last one lowest. */
        long codeOf(int number) {
            int span = spanOf(number);
            int value = number - firstOf(span);
            long code = 0;
            for (int i = 0; i < span; i++) {
                code |= (long) (value % letterCount) << (2 * i);
                value /= letterCount;
            }
            return code;
        }

        void write(int number, Word target) {
            long code = codeOf(number);
            target.wipe();
            for (int i = spanOf(number) - 1; i >= 0; i--) {
                target.push((int) (code >> (2 * i)) & 3);
            }
        }
    }

    /** Which STRINGS are JOINED: each is led to a lesser one, the LEAST to itself. */
    private static final class Joins {
        private final int[] lesser;
        private int all;
        int groups;

        Joins() {
            lesser = new int[MOST_SEEN];
        }

        void begin(int total) {
            all = Math.min(total, lesser.length);
            for (int i = 0; i < all; i++) {
                lesser[i] = i;
            }
        }

        /** Joins u a v with u b v for all u and v that leave both short enough. */
        void joinByLaw(Word a, Word b, Scale scale, int m) {
            int around = m - Math.max(a.used, b.used);
            if (a.isSame(b)) {
                return;
            }
            for (int behind = 0; behind <= around; behind++) {
                for (int ahead = 0; ahead + behind <= around; ahead++) {
                    joinBetween(a, b, scale, ahead, behind);
                }
            }
        }

        private void joinBetween(Word a, Word b, Scale scale, int ahead, int behind) {
            int tails = scale.powerOf(behind);
            int heads = scale.powerOf(ahead);
            int startA = scale.firstOf(ahead + a.used + behind) + scale.valueOf(a) * tails;
            int startB = scale.firstOf(ahead + b.used + behind) + scale.valueOf(b) * tails;
            int leapA = scale.powerOf(a.used) * tails;
            int leapB = scale.powerOf(b.used) * tails;
            for (int head = 0; head < heads; head++) {
                for (int tail = 0; tail < tails; tail++) {
                    join(startA + head * leapA + tail, startB + head * leapB + tail);
                }
            }
        }

        private void join(int one, int other) {
            if (one < 0 || one >= all || other < 0 || other >= all) {
                return;
            }
            int endOne = leastOf(one);
            int endOther = leastOf(other);
            if (endOne < endOther) {
                lesser[endOther] = endOne;
            } else {
                lesser[endOne] = endOther;
            }
        }

        int leastOf(int number) {
            if (number < 0 || number >= all) {
                return 0;
            }
            int here = number;
            for (int i = 0; i < all && lesser[here] != here; i++) {
                // Each look shortens the way for the next one.
                lesser[here] = lesser[lesser[here]];
                here = lesser[here];
            }
            return here;
        }

        boolean isLeast(int number) {
            return number >= 0 && number < all && lesser[number] == number;
        }

        /** Leads each STRING to its LEAST at once, which holds of the lesser ones already. */
        void settle() {
            groups = 0;
            for (int i = 0; i < all; i++) {
                if (lesser[i] == i) {
                    groups++;
                }
                lesser[i] = lesser[lesser[i]];
            }
        }
    }

    /**
     * The RULES: of LEFT sides the numbers in ORDER, by which they are found, and of all sides the codes,
     * two bits a LETTER, by which they are read.
     */
    private static final class Rules {
        private final Scale scale;
        private final int[] leftNumbers;
        private final int[] leftSpans;
        private final int[] rightSpans;
        private final long[] leftCodes;
        private final long[] rightCodes;
        int held;

        Rules(Scale scale) {
            this.scale = scale;
            leftNumbers = new int[RULE_COUNT];
            leftSpans = new int[RULE_COUNT];
            rightSpans = new int[RULE_COUNT];
            leftCodes = new long[RULE_COUNT];
            rightCodes = new long[RULE_COUNT];
        }

        boolean has(int r) {
            return r >= 0 && r < held;
        }

        /** False if there are too many. */
        boolean gather(Joins joins, int m) {
            held = 0;
            for (int span = 1; span <= m; span++) {
                int start = scale.firstOf(span);
                int many = scale.powerOf(span);
                for (int value = 0; value < many; value++) {
                    if (!joins.isLeast(start + value) && arePartsLeast(joins, span, value)
                            && !keep(start + value, joins.leastOf(start + value))) {
                        return false;
                    }
                }
            }
            return true;
        }

        private boolean arePartsLeast(Joins joins, int span, int value) {
            int start = scale.firstOf(span - 1);
            return joins.isLeast(start + value / scale.letterCount)
                    && joins.isLeast(start + value % scale.powerOf(span - 1));
        }

        private boolean keep(int left, int right) {
            if (held >= RULE_COUNT) {
                return false;
            }
            leftNumbers[held] = left;
            leftSpans[held] = scale.spanOf(left);
            leftCodes[held] = scale.codeOf(left);
            rightSpans[held] = scale.spanOf(right);
            rightCodes[held] = scale.codeOf(right);
            held++;
            return true;
        }

        int spanOf(int r, boolean left) {
            if (r < 0 || r >= RULE_COUNT) {
                return 0;
            }
            return left ? leftSpans[r] : rightSpans[r];
        }

        int signAt(int r, boolean left, int i) {
            if (r < 0 || r >= RULE_COUNT) {
                return 0;
            }
            int behind = (left ? leftSpans[r] : rightSpans[r]) - 1 - i;
            return (int) ((left ? leftCodes[r] : rightCodes[r]) >> (2 * behind)) & 3;
        }

        /** The RIGHT side as the head of a STRING. */
        long packedRight(int r) {
            return r >= 0 && r < RULE_COUNT ? rightCodes[r] | 1L << (2 * rightSpans[r]) : 1;
        }

        /** Of the LEFT side, LETTERS from .. to - 1, as a code. */
        long leftPart(int r, int from, int to) {
            if (r < 0 || r >= RULE_COUNT) {
                return 0;
            }
            long beginning = leftCodes[r] >> (2 * (leftSpans[r] - to));
            return beginning & ((1L << (2 * (to - from))) - 1);
        }

        /** The number in ORDER of the first LETTERS of the LEFT side. */
        int numberOfBeginning(int r, int span) {
            if (r < 0 || r >= RULE_COUNT) {
                return 0;
            }
            int value = leftNumbers[r] - scale.firstOf(leftSpans[r]);
            return scale.firstOf(span) + value / scale.powerOf(leftSpans[r] - span);
        }

        void copy(int r, boolean left, int from, int to, Word target) {
            for (int i = Math.max(from, 0); i < to; i++) {
                target.push(signAt(r, left, i));
            }
        }

        int withLeft(int number) {
            return placeOf(leftNumbers, held, number);
        }
    }

    /** Where a number stands in a row that rises; if it does not, -1 less the place where it would. */
    private static int placeOf(int[] row, int held, int number) {
        int low = 0;
        int high = Math.min(held, row.length);
        while (low < high) {
            int middle = (low + high) / 2;
            if (row[middle] < number) {
                low = middle + 1;
            } else {
                high = middle;
            }
        }
        return low < held && low < row.length && row[low] == number ? low : -1 - low;
    }

    /** What stands in a row from a place on comes to a place ahead of it. */
    private static void moveDown(int[] row, int from, int to, int many) {
        for (int i = 0; i < many && to >= 0 && to <= from && from + i < row.length; i++) {
            row[to + i] = row[from + i];
        }
    }

    /** THE MACHINE, made for any RULES; what it counts has a meaning only if they are CLOSED. */
    private static final class Machine {
        private final Scale scale;
        private final Rules rules;
        private final int[] numbers;
        private final int[] steps;
        private long[] ways;
        private long[] spare;
        final long[] counts;
        int held;
        int met;
        boolean endless;

        Machine(Scale scale, Rules rules) {
            this.scale = scale;
            this.rules = rules;
            numbers = new int[STATE_ROOM];
            steps = new int[STEP_ROOM];
            ways = new long[STATE_ROOM];
            spare = new long[STATE_ROOM];
            counts = new long[LONGEST_COUNTED + 2];
        }

        boolean has(int state) {
            return state >= 0 && state < held;
        }

        int letterCount() {
            return scale.letterCount;
        }

        void build() {
            held = 0;
            keep(0);
            for (int r = 0; r < rules.held; r++) {
                int span = rules.spanOf(r, true);
                for (int k = 1; k < span; k++) {
                    keep(rules.numberOfBeginning(r, k));
                }
            }
            for (int state = 0; state < held; state++) {
                int span = scale.spanOf(numbers[state]);
                int value = (numbers[state] - scale.firstOf(span)) * scale.letterCount;
                for (int l = 0; l < scale.letterCount; l++) {
                    steps[state * scale.letterCount + l] = endOf(span + 1, value + l);
                }
            }
        }

        private void keep(int number) {
            int place = -1 - placeOf(numbers, held, number);
            boolean isRoom = held < STATE_ROOM && (held + 1) * scale.letterCount <= STEP_ROOM;
            if (place < 0 || !isRoom) {
                return;
            }
            for (int i = held; i > place; i--) {
                numbers[i] = numbers[i - 1];
            }
            numbers[place] = number;
            held++;
        }

        /** The longest STATE that ends a STRING; if LEFT sides end it, -1 less the RULE of the longest. */
        private int endOf(int span, int value) {
            for (int k = span; k > 0; k--) {
                int r = rules.withLeft(scale.firstOf(k) + value % scale.powerOf(k));
                if (r >= 0) {
                    return -1 - r;
                }
            }
            for (int k = span; k > 0; k--) {
                int state = placeOf(numbers, held, scale.firstOf(k) + value % scale.powerOf(k));
                if (state >= 0) {
                    return state;
                }
            }
            return 0;
        }

        /** Where a LETTER leads; below 0: nowhere, being -1 less the RULE whose LEFT side ends there. */
        int step(int state, int l) {
            int i = state * scale.letterCount + l;
            return state >= 0 && state < held && i >= 0 && i < STEP_ROOM ? steps[i] : 0;
        }

        /**
         * Reads on from a place in a STRING, where its STATE is known: where the first LEFT side ends, which is met
         * then, or -1. LETTERS from the place same on are as they were, with the STATES behind them.
         */
        int read(Word word, int[] places, int start, int same) {
            if (start < 0 || start > word.used || word.used >= places.length) {
                return -1;
            }
            int state = places[start];
            for (int i = start; i < word.used; i++) {
                int at = state * scale.letterCount + word.signs[i];
                state = at >= 0 && at < STEP_ROOM ? steps[at] : 0;
                if (state < 0) {
                    met = -1 - state;
                    return i;
                }
                if (i >= same && places[i + 1] == state) {
                    return -1;
                }
                places[i + 1] = state;
            }
            return -1;
        }

        void tally() {
            endless = isEndless();
            for (int i = 0; i < held; i++) {
                ways[i] = 1;
            }
            for (int k = 0; k <= LONGEST_COUNTED + 1; k++) {
                counts[k] = ways[0];
                lengthen();
            }
        }

        /** Strikes out STATES from which all ways end, till none is left to strike out. */
        private boolean isEndless() {
            for (int i = 0; i < held; i++) {
                ways[i] = 1;
            }
            boolean isStruck = true;
            for (int round = 0; round <= held && isStruck; round++) {
                isStruck = false;
                for (int state = 0; state < held; state++) {
                    if (ways[state] > 0 && !goesOn(state)) {
                        ways[state] = 0;
                        isStruck = true;
                    }
                }
            }
            return ways[0] > 0;
        }

        private boolean goesOn(int state) {
            for (int l = 0; l < scale.letterCount; l++) {
                int next = step(state, l);
                if (next >= 0 && ways[next] > 0) {
                    return true;
                }
            }
            return false;
        }

        /** From the ways of a length, by STATES where they start, to those of a LETTER more. */
        private void lengthen() {
            for (int state = 0; state < held; state++) {
                long many = 0;
                for (int l = 0; l < scale.letterCount; l++) {
                    int next = step(state, l);
                    if (next >= 0) {
                        many += ways[next];
                    }
                }
                spare[state] = many;
            }
            long[] before = ways;
            ways = spare;
            spare = before;
        }

        /** A table of the ways of all lengths would be dear to keep, so they are counted when wanted. */
        private void countWays(int span) {
            for (int i = 0; i < held; i++) {
                ways[i] = 1;
            }
            for (int k = 0; k < span; k++) {
                lengthen();
            }
        }

        long countBelow(int span) {
            long many = 0;
            for (int k = 0; k < span && k < counts.length; k++) {
                many += counts[k];
            }
            return many;
        }

        /** False if there is no such LEAST STRING that is short enough. */
        boolean writeNumber(long number, Word target) {
            long left = number;
            int span = 0;
            while (span <= LONGEST_COUNTED && left >= counts[span]) {
                left -= counts[span];
                span++;
            }
            if (span > LONGEST_COUNTED) {
                return false;
            }
            target.wipe();
            int state = 0;
            for (int i = 0; i < span; i++) {
                countWays(span - 1 - i);
                int l = 0;
                while (l < scale.letterCount - 1 && left >= waysBy(state, l)) {
                    left -= waysBy(state, l);
                    l++;
                }
                target.push(l);
                state = Math.max(step(state, l), 0);
            }
            return true;
        }

        /** The number of a LEAST STRING. */
        long numberOf(Word word) {
            long number = countBelow(word.used);
            int state = 0;
            for (int i = 0; i < word.used; i++) {
                countWays(word.used - 1 - i);
                for (int l = 0; l < word.signs[i]; l++) {
                    number += waysBy(state, l);
                }
                state = Math.max(step(state, word.signs[i]), 0);
            }
            return number;
        }

        private long waysBy(int state, int l) {
            int next = step(state, l);
            return next >= 0 ? ways[next] : 0;
        }
    }

    /**
     * REDUCES STRINGS: at the place where the first LEFT side ends, of several there the longest, as long as
     * that is not too far; the Grower goes on from there in another order. The order is free. RIGHT sides are
     * ahead of LEFT ones, so all ways end; if the RULES are CLOSED, all end alike; and if they are not, two
     * STRINGS of the proof are there that no order brings together.
     */
    private static final class Rewriter {
        private final Rules rules;
        private final Machine machine;
        private final int[] rest;
        private final int[] places;
        private int restUsed;
        private Grower grower;

        Rewriter(Rules rules, Machine machine) {
            this.rules = rules;
            this.machine = machine;
            rest = new int[WORD_ROOM];
            places = new int[WORD_ROOM + 1];
        }

        /** The RULES are other ones now. */
        void forget() {
            if (grower != null) {
                grower.known.wipe();
            }
        }

        /** Source and target may be the same. False if there is no room, or no end. */
        boolean run(Word source, Word target) {
            restUsed = 0;
            for (int i = Math.min(source.used, WORD_ROOM) - 1; i >= 0; i--) {
                rest[restUsed++] = source.signs[i];
            }
            target.wipe();
            if (!readOn(target)) {
                return false;
            }
            if (restUsed <= 0) {
                return true;
            }
            if (grower == null) {
                grower = new Grower(rules, machine);
            }
            return putRestBack(target) && grower.run(target);
        }

        /**
         * The target holds what is read and has no LEFT side in it, with the STATES along it, the rest
         * what is to be read, its first LETTER last.
         */
        private boolean readOn(Word target) {
            for (int turn = 0; turn < PLAIN_TURNS && restUsed > 0; turn++) {
                int sign = rest[--restUsed];
                int next = machine.step(places[target.used], sign);
                boolean isRoom = next < 0 ? replace(-1 - next, target) : target.push(sign);
                if (!isRoom) {
                    return false;
                }
                if (next >= 0) {
                    places[target.used] = next;
                }
            }
            return true;
        }

        /** The last LETTER of the LEFT side is read, but not in the target yet. */
        private boolean replace(int r, Word target) {
            int kept = target.used - (rules.spanOf(r, true) - 1);
            int span = rules.spanOf(r, false);
            if (kept < 0 || kept + restUsed + span > WORD_ROOM) {
                return false;
            }
            target.used = kept;
            for (int i = span - 1; i >= 0; i--) {
                rest[restUsed++] = rules.signAt(r, false, i);
            }
            return true;
        }

        private boolean putRestBack(Word target) {
            for (int i = restUsed - 1; i >= 0; i--) {
                if (!target.push(rest[i])) {
                    return false;
                }
            }
            return true;
        }
    }

    /**
     * What STRINGS are known to REDUCE to. A key is read from either of its ends, so that LETTERS can be dropped at
     * the other one: behind a 1 if it is read forwards, a 2 if backwards, the first HALF of its LETTERS are its head;
     * the others, behind a 1, its tail.
     */
    private static final class Known {
        /** Powers of two. */
        private static final int ROOM = 32768;
        private static final int WIDE_ROOM = 262144;
        private static final int NEAR = 4;
        private static final long HEAD_FULL = 1L << (2 * Word.HALF);
        private long[] heads;
        private long[] tails;
        private long[] endHeads;
        private long[] endTails;
        private boolean isEmpty;
        long head;
        long tail;

        Known() {
            makeRoom(ROOM);
        }

        private void makeRoom(int room) {
            heads = new long[room];
            tails = new long[room];
            endHeads = new long[room];
            endTails = new long[room];
            isEmpty = true;
        }

        /** What was known is soon learnt again. */
        void widen() {
            if (heads.length < WIDE_ROOM) {
                makeRoom(WIDE_ROOM);
            }
        }

        void wipe() {
            for (int i = 0; i < heads.length && !isEmpty; i++) {
                // The head of a key is never 0.
                heads[i] = 0;
            }
            isEmpty = true;
        }

        void begin(boolean isBackwards) {
            head = isBackwards ? 2 : 1;
            tail = 1;
        }

        void push(int sign) {
            if (head < HEAD_FULL) {
                head = head * 4 + sign;
            } else {
                tail = tail * 4 + sign;
            }
        }

        void drop() {
            if (tail > 1) {
                tail >>= 2;
            } else {
                head >>= 2;
            }
        }

        /** A key without the LETTERS that were read last. */
        void take(long wholeHead, long wholeTail, int spared) {
            head = wholeHead;
            tail = wholeTail;
            for (int i = 0; i < spared; i++) {
                drop();
            }
        }

        private int firstPlace() {
            long mixed = (head * 31 + tail) * 0x9E3779B97F4A7C15L;
            return (int) (mixed >>> 44) & (heads.length - NEAR);
        }

        /** Whether the key is known; then what it REDUCES to. */
        boolean find(Word end) {
            int first = firstPlace();
            for (int i = first; i < first + NEAR && i < heads.length; i++) {
                if (heads[i] == head && tails[i] == tail) {
                    end.unpack(endHeads[i], endTails[i]);
                    return true;
                }
            }
            return false;
        }

        /**
         * That the key REDUCES to LETTERS from .. to - 1 of a STRING. Of the keys that are near the longest gives
         * way: shorter ones meet more often.
         */
        void keep(Word word, int from, int to) {
            int first = firstPlace();
            int place = first;
            for (int i = first; i < first + NEAR && i < heads.length; i++) {
                if (heads[i] == 0 || (heads[i] == head && tails[i] == tail)) {
                    place = i;
                    break;
                }
                if (tails[i] > tails[place] || (tails[i] == tails[place] && heads[i] > heads[place])) {
                    place = i;
                }
            }
            heads[place] = head;
            tails[place] = tail;
            endHeads[place] = word.pack(from, to);
            endTails[place] = word.pack(from + Word.HALF, to);
            isEmpty = false;
        }
    }

    /**
     * REDUCES a STRING by a part that grows, LETTER by LETTER, and has no LEFT side in it. Where a LETTER brings
     * one in, the RIGHT side becomes the part, and LETTERS at the other side of it wait, to be the next that come
     * back. What the part and that LETTER came to in the end is kept for when they meet again: the long ways are
     * those on which the same parts meet over and over.
     *
     * The row holds LETTERS that wait ahead of the part and then, from a place on, the part, with the STATES along
     * it; LETTERS that wait behind it stand backwards. A level is opened by a LETTER that brings in a LEFT side, and
     * closed when all LETTERS that wait for it are back. It is whole if LETTERS at both ends of its start have been
     * changed.
     */
    private static final class Grower {
        /**
         * Each turn brings the STRING ahead in ORDER, and there are fewer than 4 to the 61st STRINGS: so many laps
         * of so many turns, 4 to the 62nd in all, are more than any way has.
         */
        private static final long MANY = 1L << 62;

        /** Few ways are as long as this, and then more room is worth it. */
        private static final long LONG_WAY = 1000000;

        private final Rules rules;
        private final Machine machine;
        private final Word row;
        private final Word behind;
        private final Word end;
        private final int[] places;
        private final long[] startHeads;
        private final long[] startTails;
        private final int[] waiting;
        private final int[] idle;
        private final boolean[] isAhead;
        private final boolean[] isWhole;
        private int from;
        private int level;
        final Known known;

        /** Above the first one each open level but the last has a LETTER that waits. */
        Grower(Rules rules, Machine machine) {
            this.rules = rules;
            this.machine = machine;
            row = new Word(WORD_ROOM);
            behind = new Word(WORD_ROOM);
            end = new Word(WORD_ROOM);
            places = new int[WORD_ROOM + 1];
            int levels = WORD_ROOM + 2;
            startHeads = new long[levels];
            startTails = new long[levels];
            waiting = new int[levels];
            idle = new int[levels];
            isAhead = new boolean[levels];
            isWhole = new boolean[levels];
            known = new Known();
        }

        /** False if there is no end, which can't be. */
        boolean run(Word word) {
            row.wipe();
            behind.wipe();
            from = 0;
            places[from] = 0;
            level = 0;
            await(false, behind.drawFrom(word, 0), true);
            for (long lap = 0; lap < MANY; lap++) {
                for (long turn = 0; turn < MANY; turn++) {
                    if (!growOn()) {
                        word.take(row);
                        return true;
                    }
                    replace(isAhead[level]);
                    if (turn == LONG_WAY) {
                        known.widen();
                    }
                }
            }
            return false;
        }

        private void await(boolean isAheadNow, int many, boolean isWholeNow) {
            isAhead[level] = isAheadNow;
            waiting[level] = many;
            isWhole[level] = isWholeNow;
            idle[level] = 0;
        }

        /** LETTERS come back till one brings in a LEFT side; false if all are back. */
        private boolean growOn() {
            for (int i = 0; i < 4 * WORD_ROOM; i++) {
                if (waiting[level] > 0) {
                    waiting[level]--;
                    idle[level]++;
                    if (grow()) {
                        idle[level] = 0;
                        return true;
                    }
                } else if (level > 0) {
                    // LETTERS that came back last and changed nothing are no part of what is learnt.
                    int spared = isWhole[level] ? 0 : idle[level];
                    known.take(startHeads[level], startTails[level], spared);
                    int first = from + (isAhead[level] ? spared : 0);
                    known.keep(row, first, row.used - (isAhead[level] ? 0 : spared));
                    level--;
                } else {
                    return false;
                }
            }
            return false;
        }

        private boolean grow() {
            if (!isAhead[level]) {
                row.push(behind.dropLast());
                return machine.read(row, places, row.used - 1, row.used) >= 0;
            }
            from = Math.max(from - 1, 0);
            places[from] = 0;
            return machine.read(row, places, from, from) >= 0;
        }

        /** The LEFT side begins or ends the part; the most that is known, or else that, is replaced. */
        private void replace(boolean isFirst) {
            known.begin(!isFirst);
            for (int i = from; i < row.used; i++) {
                known.push(row.signs[isFirst ? i : row.used - 1 - (i - from)]);
            }
            long head = known.head;
            long tail = known.tail;
            int most = Math.max(row.used - from - rules.spanOf(machine.met, true), 0);
            int left = 0;
            while (left <= most && !known.find(end)) {
                known.drop();
                left++;
            }
            if (left > most) {
                left = most;
                end.unpack(rules.packedRight(machine.met), 1);
            }
            if (isFirst) {
                replaceFirst(left, head, tail);
            } else {
                replaceLast(left, head, tail);
            }
        }

        private void replaceFirst(int left, long head, long tail) {
            int rest = row.used - left;
            int same = from + end.used;
            moveDown(row.signs, rest, same, left);
            moveDown(places, rest + 1, same + 1, left);
            row.used = from;
            row.append(end);
            row.used += left;
            int at = machine.read(row, places, from, same);
            if (at < 0) {
                return;
            }
            // A RIGHT side may have a part that is not LEAST: then it comes back LETTER by LETTER too.
            boolean isRaw = at < same;
            boolean isOpen = open(head, tail);
            await(false, behind.drawFrom(row, isRaw ? from : same), isOpen || isRaw);
        }

        private void replaceLast(int left, long head, long tail) {
            int kept = from + left;
            row.used = kept;
            row.append(end);
            if (machine.read(row, places, kept, row.used) < 0) {
                return;
            }
            boolean isOpen = open(head, tail);
            places[kept] = 0;
            if (machine.read(row, places, kept, row.used) < 0) {
                from = kept;
                await(true, left, isOpen);
            } else {
                await(false, behind.drawFrom(row, from), true);
            }
        }

        /** With its last LETTER a level goes on instead of opening another: the chain of these may be very long. */
        private boolean open(long head, long tail) {
            if (level > 0 && waiting[level] <= 0) {
                return true;
            }
            if (level < waiting.length - 1) {
                level++;
            }
            startHeads[level] = head;
            startTails[level] = tail;
            return false;
        }
    }

    /** Whether the RULES are CLOSED. Two LEFT sides have some forty LETTERS at most, so there is room. */
    private static final class Proof {
        private final Rules rules;
        private final Rewriter rewriter;
        private final Word one;
        private final Word other;

        Proof(Rules rules, Rewriter rewriter, Word one, Word other) {
            this.rules = rules;
            this.rewriter = rewriter;
            this.one = one;
            this.other = other;
        }

        boolean holds(Word[] lawSides, int lawsHeld) {
            for (int i = 0; i < lawsHeld && 2 * i + 1 < lawSides.length; i++) {
                one.take(lawSides[2 * i]);
                other.take(lawSides[2 * i + 1]);
                if (!agree()) {
                    return false;
                }
            }
            for (int r = 0; r < rules.held; r++) {
                int span = rules.spanOf(r, true);
                for (int q = 0; q < rules.held; q++) {
                    int spanQ = rules.spanOf(q, true);
                    for (int v = 1; v < span && v < spanQ; v++) {
                        if (meets(r, q, v) && !agree()) {
                            return false;
                        }
                    }
                    for (int from = 0; r != q && from + spanQ <= span; from++) {
                        if (encloses(r, q, from) && !agree()) {
                            return false;
                        }
                    }
                }
            }
            return true;
        }

        /** Whether LEFT sides are u v of r and v w of q; then the two ways are begun. */
        private boolean meets(int r, int q, int v) {
            int span = rules.spanOf(r, true);
            if (rules.leftPart(r, span - v, span) != rules.leftPart(q, 0, v)) {
                return false;
            }
            one.wipe();
            rules.copy(r, false, 0, rules.spanOf(r, false), one);
            rules.copy(q, true, v, rules.spanOf(q, true), one);
            other.wipe();
            rules.copy(r, true, 0, span - v, other);
            rules.copy(q, false, 0, rules.spanOf(q, false), other);
            return true;
        }

        /** LEFT sides u v w of r and v of q, likewise; what is LEAST may have a part that is not. */
        private boolean encloses(int r, int q, int from) {
            int spanQ = rules.spanOf(q, true);
            if (rules.leftPart(r, from, from + spanQ) != rules.leftPart(q, 0, spanQ)) {
                return false;
            }
            one.wipe();
            rules.copy(r, false, 0, rules.spanOf(r, false), one);
            other.wipe();
            rules.copy(r, true, 0, from, other);
            rules.copy(q, false, 0, rules.spanOf(q, false), other);
            rules.copy(r, true, from + spanQ, rules.spanOf(r, true), other);
            return true;
        }

        private boolean agree() {
            return rewriter.run(one, one) && rewriter.run(other, other) && one.isSame(other);
        }
    }

    /** Goes along the LEAST STRINGS in ORDER. */
    private static final class Walk {
        private final Machine machine;
        private final int[] places;
        final Word word;

        Walk(Machine machine) {
            this.machine = machine;
            places = new int[LONGEST_COUNTED + 1];
            word = new Word(LONGEST_COUNTED);
        }

        void begin() {
            word.wipe();
            places[0] = 0;
        }

        /** To the next one; false if there is none that is short enough. */
        boolean advance() {
            if (seek(word.used - 1)) {
                return true;
            }
            // A beginning of a LEAST STRING is LEAST: if none has a LETTER more, no longer one is there.
            if (!word.push(0)) {
                return false;
            }
            word.signs[0] = -1;
            return seek(0);
        }

        /** The next STRING as long as the word, being changed at a place or ahead of it. */
        private boolean seek(int from) {
            int i = from;
            for (int turn = 0; turn < MOST_TURNS && i >= 0; turn++) {
                int l = word.signs[i] + 1;
                while (l < machine.letterCount() && machine.step(places[i], l) < 0) {
                    l++;
                }
                if (l >= machine.letterCount()) {
                    i--;
                    continue;
                }
                word.signs[i] = l;
                places[i + 1] = machine.step(places[i], l);
                i++;
                if (i >= word.used) {
                    return true;
                }
                word.signs[i] = -1;
            }
            return false;
        }
    }

    /** Different STRINGS, each by its head and its tail. */
    private static final class Made {
        private final long[] heads;
        private final long[] tails;
        int held;

        Made() {
            heads = new long[MOST_MADE];
            tails = new long[MOST_MADE];
        }

        /** With the STRING without LETTERS alone. */
        void begin() {
            heads[0] = 1;
            tails[0] = 1;
            held = 1;
        }

        /** False if it is new and there is no room. */
        boolean add(Word word) {
            long head = word.pack(0, word.used);
            long tail = word.pack(Word.HALF, word.used);
            for (int i = 0; i < held; i++) {
                if (heads[i] == head && tails[i] == tail) {
                    return true;
                }
            }
            if (held >= MOST_MADE) {
                return false;
            }
            heads[held] = head;
            tails[held] = tail;
            held++;
            return true;
        }

        void read(int i, Word target) {
            target.wipe();
            if (i >= 0 && i < held) {
                target.unpack(heads[i], tails[i]);
            }
        }
    }
}
