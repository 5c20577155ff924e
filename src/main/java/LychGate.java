import java.util.NoSuchElementException;

/**
 * A gate that keeps count of grudges. The document ../shared/DOC.md says, as numbered promises,
 * what each call answers; words in capitals here are the document's.
 */
public final class LychGate {
    public static final int NONE = -1;

    private static final int MOST_SOULS = 8;
    private static final int MOST_GRUDGES = 14;
    private static final int MOST_CLAUSES = 60;
    private static final int MOST_SUM = 30;
    private static final int MOST_PRIDE = 9;
    private static final int MOST_OPEN = 6;
    private static final int MOST_AGAIN = 30;
    private static final int MOST_STEPS = 200;
    private static final int MOST_WORKS = 16;
    private static final int MOST_IMAGES = 3;
    private static final int MOST_LIARS = 8;
    private static final int MOST_WORTH = 20;
    private static final int MOST_N = 99;
    private static final int LAST_WEEK = 400;

    private static final int TAPE_BYTES = 600;
    private static final int LAW_BYTES = 150;
    private static final int WORK_BYTES = 150;
    private static final int BOOK_BYTES = 60;

    /** The kinds of FAULT. */
    private static final int CANT_STAND = 1;
    private static final int NO_SUCH = 2;
    private static final int TOO_MANY = 3;

    private static final int TOO_MANY_WORKS = -20;
    private static final int ALL_SETS = 1 << MOST_SOULS;
    /** Of those who forgave a SOUL none to all eight can have lied. */
    private static final int ANSWERS = MOST_SOULS + 1;

    private final Tape tape = new Tape();
    private final Year year = new Year();
    private final State[] images = new State[MOST_IMAGES];
    private final int[] dearth = new int[MOST_N + 1];
    private final int[] groups = new int[ALL_SETS];
    private final int[] nets = new int[MOST_SOULS];
    private final int[] forgivers = new int[MOST_SOULS];
    private final int[] tally = new int[MOST_SOULS * ANSWERS];
    private State state = new State(new Parish());
    private Law law = new Law();
    private Book book = new Book();
    private int imagesKept = 0;
    private int refusedSteps = 0;
    private int refusedElements = 0;
    private int refusedArguments = 0;

    public LychGate() {
    }

    // ---- texts ----

    public int feed(int a, int b, int c, int d, int e) {
        if (tape.filled + 20 > TAPE_BYTES) {
            return NONE;
        }
        tape.append(a);
        tape.append(b);
        tape.append(c);
        tape.append(d);
        tape.append(e);
        return tape.filled;
    }

    public int parish(int n) throws IllegalArgumentException {
        openText(n, TAPE_BYTES);
        Parish told = new Parish();
        told.readFrom(tape);
        if (tape.failed()) {
            return tape.refusal();
        }
        state = new State(told);
        law = new Law();
        book = new Book();
        imagesKept = 0;
        refusedSteps = 0;
        return told.grudges;
    }

    public int law(int n) throws IllegalArgumentException {
        openText(n, LAW_BYTES);
        LawReader reader = new LawReader(tape, n);
        reader.readSum(0);
        if (tape.goesOn()) {
            tape.fail(CANT_STAND);
        }
        if (tape.failed()) {
            return tape.refusal();
        }
        law = new Law(reader.code, reader.size);
        return 1;
    }

    public int work(int n) throws IllegalArgumentException {
        openText(n, WORK_BYTES);
        if (state.works >= MOST_WORKS) {
            return TOO_MANY_WORKS;
        }
        WorkReader reader = new WorkReader(tape, state.parish);
        Step first = reader.readSteps(0);
        if (tape.failed()) {
            return tape.refusal();
        }
        Worker worker = new Worker(state.behindThis(), law);
        worker.doSteps(first, 0);
        state = worker.state;
        refusedSteps = worker.refused;
        return worker.done;
    }

    public int book(int n) throws IllegalArgumentException {
        openText(n, BOOK_BYTES);
        Book told = new Book();
        told.readFrom(tape, state.parish.souls);
        if (tape.failed()) {
            return tape.refusal();
        }
        book = told;
        return told.size;
    }

    public int fault() {
        return tape.faultPlace;
    }

    public int undo() {
        if (state.ahead == null) {
            return -1;
        }
        state = state.ahead;
        refusedSteps = 0;
        return state.works;
    }

    // ---- what is told, what is ----

    public int told(int what) throws IllegalArgumentException {
        need(what >= 0 && what <= 11);
        switch (what) {
            case 0: return state.parish.souls;
            case 1: return state.parish.grudges;
            case 2: return state.week;
            case 3: return state.swings;
            case 4: return state.living;
            case 5: return state.thereBits();
            case 6: return state.forgiven;
            case 7: return state.begun;
            case 8: return state.liars;
            case 9: return state.through;
            case 10: return book.size;
            default: return refusedSteps;
        }
    }

    public int soul(int soul, int what) throws NoSuchElementException, IllegalArgumentException {
        needSoul(soul);
        need(what >= 0 && what <= 6);
        switch (what) {
            case 0: return state.parish.prideOf(soul);
            case 1: return state.canBegin(soul) ? 1 : 0;
            case 2: return state.parish.waitsOf(soul);
            case 3: return state.parish.heirOf(soul);
            case 4: return state.sumsBy(soul);
            case 5: return state.sumsAgainst(soul);
            default: return state.forgivingsOf(soul);
        }
    }

    public int grudge(int grudge, int what) throws NoSuchElementException, IllegalArgumentException {
        needGrudge(grudge);
        need(what >= 0 && what <= 5);
        switch (what) {
            case 0: return state.holderOf(grudge);
            case 1: return state.parish.againstOf(grudge);
            case 2: return state.sumOf(grudge);
            case 3: return state.isForgiven(grudge) ? 1 : 0;
            case 4: return state.timesOf(grudge);
            default: return state.worthOf(grudge, law);
        }
    }

    public int would(int sum, int pride, int times, int owed, int others, int week, int soul)
            throws IllegalArgumentException {
        need(sum >= 0 && sum <= MOST_SUM && pride >= 1 && pride <= MOST_PRIDE);
        need(times >= 0 && times <= 999 && owed >= 0 && owed <= MOST_SUM);
        need(others >= 0 && others <= 7 && week >= 0 && week <= LAST_WEEK && soul >= 0 && soul <= 7);
        return law.worth(sum, pride, times, owed, others, week, soul);
    }

    public boolean can(int grudge) throws NoSuchElementException {
        needGrudge(grudge);
        return state.canForgive(grudge);
    }

    // ---- least pride, order ----

    public int least(int n, int what) throws IllegalArgumentException {
        need(n >= 0 && n <= MOST_N && what >= 0 && what <= 1);
        int best = cheapest(n - state.swings);
        if (best == NONE) {
            return NONE;
        }
        return what == 0 ? best >> MOST_GRUDGES : best & ((1 << MOST_GRUDGES) - 1);
    }

    /**
     * The least PRIDE of a set of worth missing or more, times 2 to the 14th, and the set's bits: as one
     * number, the lesser one is the one that LEAST asks for, and adding a GRUDGE keeps the order.
     */
    private int cheapest(int missing) {
        if (missing <= 0) {
            return 0;
        }
        if (missing > MOST_N) {
            return NONE;
        }
        dearth[0] = 0;
        for (int r = 1; r <= missing; r++) {
            dearth[r] = NONE;
        }
        for (int g = 0; g < MOST_GRUDGES; g++) {
            if (state.canForgive(g)) {
                int cost = (state.parish.prideOf(state.holderOf(g)) << MOST_GRUDGES) + (1 << g);
                cheapenBy(missing, state.worthOf(g, law), cost);
            }
        }
        return dearth[missing];
    }

    private void cheapenBy(int missing, int worth, int cost) {
        for (int r = missing; r >= 1 && r <= MOST_N; r--) {
            int known = dearth[Math.max(0, r - Math.max(0, worth))];
            if (known != NONE && (dearth[r] == NONE || known + cost < dearth[r])) {
                dearth[r] = known + cost;
            }
        }
    }

    public int order(int k) throws IllegalArgumentException {
        need(k >= 0);
        if (k >= MOST_SOULS || stuckBits() != 0) {
            return NONE;
        }
        int placed = 0;
        int latest = NONE;
        for (int i = 0; i <= k; i++) {
            latest = nextInOrder(placed);
            if (latest == NONE) {
                return NONE;
            }
            placed |= 1 << latest;
        }
        return latest;
    }

    public int stuck() {
        return stuckBits();
    }

    private int stuckBits() {
        int placed = 0;
        for (int i = 0; i < MOST_SOULS; i++) {
            int next = nextInOrder(placed);
            if (next == NONE) {
                return state.living & ~placed;
            }
            placed |= 1 << next;
        }
        return state.living & ~placed;
    }

    private int nextInOrder(int placed) {
        for (int i = 0; i < MOST_SOULS; i++) {
            boolean open = state.lives(i) && (placed >> i & 1) == 0;
            if (open && (state.parish.waitsOf(i) & state.living & ~placed) == 0) {
                return i;
            }
        }
        return NONE;
    }

    // ---- who lied ----

    public int lied(int what) throws IllegalArgumentException {
        need(what >= 0 && what <= 2);
        noteForgivers();
        int many = 0;
        int first = NONE;
        int sure = state.living;
        for (int set = 0; set < ALL_SETS; set++) {
            if (fitsBook(set)) {
                many++;
                first = first == NONE ? set : first;
                sure &= set;
            }
        }
        if (what == 0) {
            return many;
        }
        if (what == 1) {
            return first;
        }
        return many == 0 ? 0 : sure;
    }

    public int ask(int what) throws IllegalArgumentException {
        need(what >= 0 && what <= 1);
        noteForgivers();
        tallySets();
        int best = NONE;
        int fewest = NONE;
        for (int soul = 0; soul < MOST_SOULS; soul++) {
            if (state.parish.isSoul(soul) && !book.has(soul)) {
                int left = leftAtWorst(soul);
                if (best == NONE || left < fewest) {
                    best = soul;
                    fewest = left;
                }
            }
        }
        return what == 0 ? best : fewest;
    }

    private void noteForgivers() {
        for (int soul = 0; soul < MOST_SOULS; soul++) {
            forgivers[soul] = state.forgiversOf(soul);
        }
    }

    private boolean fitsBook(int set) {
        if ((set & ~state.living) != 0) {
            return false;
        }
        for (int soul = 0; soul < MOST_SOULS; soul++) {
            if (book.has(soul) && Integer.bitCount(set & forgivers[soul]) != book.liarsTo(soul)) {
                return false;
            }
        }
        return true;
    }

    /** For each SOUL and each number of those who could have lied to it, how many sets there are. */
    private void tallySets() {
        for (int i = 0; i < tally.length; i++) {
            tally[i] = 0;
        }
        for (int set = 0; set < ALL_SETS; set++) {
            if (fitsBook(set)) {
                for (int soul = 0; soul < MOST_SOULS; soul++) {
                    tally[soul * ANSWERS + Integer.bitCount(set & forgivers[soul] & ALL_SETS - 1)]++;
                }
            }
        }
    }

    private int leftAtWorst(int soul) {
        int left = 0;
        for (int many = 0; many < ANSWERS; many++) {
            int at = soul * ANSWERS + many;
            if (at >= 0 && at < tally.length) {
                left = Math.max(left, tally[at]);
            }
        }
        return left;
    }

    // ---- from whom to whom ----

    public int way(int soul, int other) throws NoSuchElementException {
        needSoul(soul);
        needSoul(other);
        int reached = 1 << soul;
        for (int length = 0; length < MOST_SOULS; length++) {
            if ((reached >> other & 1) == 1) {
                return length;
            }
            reached |= state.targetsOf(reached);
        }
        return NONE;
    }

    public int rings() {
        int bits = 0;
        for (int soul = 0; soul < MOST_SOULS; soul++) {
            int reached = state.targetsOf(1 << soul);
            for (int length = 1; length < MOST_SOULS; length++) {
                reached |= state.targetsOf(reached);
            }
            bits |= reached & (1 << soul);
        }
        return bits;
    }

    /** All payments but one for each of the most groups that are even among themselves. */
    public int even() {
        int souls = state.parish.souls;
        for (int soul = 0; soul < MOST_SOULS; soul++) {
            nets[soul] = netOf(soul);
        }
        groups[0] = 0;
        int sets = Math.min(1 << souls, ALL_SETS);
        for (int set = 1; set < sets; set++) {
            groups[set] = mostGroups(set);
        }
        return souls - groups[sets - 1];
    }

    private int mostGroups(int set) {
        int most = 0;
        int sum = 0;
        for (int soul = 0; soul < MOST_SOULS; soul++) {
            int without = set & ~(1 << soul);
            if (without != set && without >= 0 && without < ALL_SETS) {
                most = Math.max(most, groups[without]);
                sum += nets[soul];
            }
        }
        return sum == 0 ? most + 1 : most;
    }

    public int net(int soul) throws NoSuchElementException {
        needSoul(soul);
        return netOf(soul);
    }

    private int netOf(int soul) {
        return state.sumsBy(soul) - state.sumsAgainst(soul);
    }

    // ---- odds, steps, bread ----

    public long odds(int n, int q, int part) throws IllegalArgumentException {
        need(n >= 0 && n <= 12 && q >= 0 && q <= 16 && part >= 0 && part <= 1);
        long even = 1;
        long odd = 0;
        for (int i = 0; i < n; i++) {
            long evenThen = even * (16 - q) + odd * q;
            odd = odd * (16 - q) + even * q;
            even = evenThen;
        }
        long all = even + odd;
        long common = commonDivisor(all, even);
        long asked = part == 0 ? even : all;
        return common == 0 ? asked : asked / common;
    }

    private static long commonDivisor(long a, long b) {
        long x = a;
        long y = b;
        for (int i = 0; i < 200 && y != 0; i++) {
            long rest = x % y;
            x = y;
            y = rest;
        }
        return x;
    }

    public int steps(int v, int w, int what) throws IllegalArgumentException {
        need(v >= 0 && v <= MOST_N && w >= 0 && w <= MOST_N && what >= 0 && what <= 2);
        int many = 0;
        int first = NONE;
        int together = 0;
        for (int one = 0; one <= 1; one++) {
            for (int two = 0; two <= 1; two++) {
                boolean rests = has(one, two, v, w) >= has(1 - one, two, v, w)
                        && has(two, one, v, w) >= has(1 - two, one, v, w);
                if (rests) {
                    many++;
                }
                if (rests && first == NONE) {
                    first = 10 * one + two;
                    together = has(one, two, v, w) + has(two, one, v, w);
                }
            }
        }
        if (what == 0) {
            return many;
        }
        return what == 1 ? first : together;
    }

    /** What one has who does mine (0 he forgives, 1 not) while the other one does his. */
    private static int has(int mine, int his, int v, int w) {
        if (mine == his) {
            return mine == 0 ? v : 0;
        }
        return mine == 0 ? -w : w;
    }

    public int bread(int soul, int souls, int n) throws NoSuchElementException, IllegalArgumentException {
        needSoul(soul);
        need((souls & ~state.parish.allBits()) == 0 && n >= 0 && n <= MOST_N);
        if ((souls >> soul & 1) == 0) {
            return 0;
        }
        int bound = 0;
        for (int higher = 1; higher <= MOST_PRIDE; higher++) {
            if (givenBelow(higher, souls) <= n) {
                bound = higher;
            }
        }
        return Math.min(bound, state.parish.prideOf(soul));
    }

    private int givenBelow(int bound, int souls) {
        int given = 0;
        for (int soul = 0; soul < MOST_SOULS; soul++) {
            if ((souls >> soul & 1) == 1) {
                given += Math.min(bound, state.parish.prideOf(soul));
            }
        }
        return given;
    }

    // ---- smaller questions ----

    public int worst(int what) throws IllegalArgumentException {
        need(what >= 0 && what <= 1);
        int worst = NONE;
        for (int g = 0; g < MOST_GRUDGES; g++) {
            if (state.isThere(g) && (worst == NONE || state.sumOf(g) > state.sumOf(worst))) {
                worst = g;
            }
        }
        return what == 0 || worst == NONE ? worst : state.sumOf(worst);
    }

    public int free() {
        int bits = 0;
        for (int soul = 0; soul < MOST_SOULS; soul++) {
            boolean none = state.manyBy(soul) == 0 && state.manyAgainst(soul) == 0;
            if (state.parish.isSoul(soul) && none) {
                bits |= 1 << soul;
            }
        }
        return bits;
    }

    public int ready(int what) throws IllegalArgumentException {
        need(what >= 0 && what <= 1);
        int bits = 0;
        int together = 0;
        for (int g = 0; g < MOST_GRUDGES; g++) {
            if (state.canForgive(g)) {
                bits |= 1 << g;
                together += state.worthOf(g, law);
            }
        }
        return what == 0 ? bits : together;
    }

    public int more(int soul) throws NoSuchElementException {
        needSoul(soul);
        return state.manyBy(soul) - state.manyAgainst(soul);
    }

    public int proudest(int what) throws IllegalArgumentException {
        need(what >= 0 && what <= 1);
        int best = NONE;
        for (int soul = 0; soul < MOST_SOULS; soul++) {
            boolean prouder = best == NONE || state.parish.prideOf(soul) > state.parish.prideOf(best);
            if (state.lives(soul) && prouder) {
                best = soul;
            }
        }
        return what == 0 || best == NONE ? best : state.parish.prideOf(best);
    }

    public int estate(int soul) throws NoSuchElementException {
        needSoul(soul);
        int bits = 0;
        for (int g = 0; g < MOST_GRUDGES; g++) {
            if (state.lives(soul) && state.isBy(g, soul) && state.goesToHeir(g)) {
                bits |= 1 << g;
            }
        }
        return bits;
    }

    public int mutual(int what) throws IllegalArgumentException {
        need(what >= 0 && what <= 1);
        int many = 0;
        int first = NONE;
        for (int one = 0; one < MOST_SOULS; one++) {
            for (int two = one + 1; two < MOST_SOULS; two++) {
                if (state.find(one, two) != NONE && state.find(two, one) != NONE) {
                    many++;
                    first = first == NONE ? 10 * one + two : first;
                }
            }
        }
        return what == 0 ? many : first;
    }

    public int ones(int what) throws IllegalArgumentException {
        need(what >= 0 && what <= 1);
        int bits = 0;
        for (int soul = 0; soul < MOST_SOULS; soul++) {
            boolean waitsNot = (state.parish.waitsOf(soul) & state.living) == 0;
            if (what == 0 ? state.canPass(soul) : state.lives(soul) && waitsNot) {
                bits |= 1 << soul;
            }
        }
        return bits;
    }

    // ---- years ----

    public int year(int seed, int q, int days, int what) throws IllegalArgumentException {
        need(q >= 0 && q <= 16 && days >= 1 && days <= 96 && what >= 0 && what <= 3);
        year.live(state, law, seed, q, days);
        switch (what) {
            case 0: return year.forgivings;
            case 1: return year.passings;
            case 2: return year.state.swings;
            default: return year.state.week;
        }
    }

    public int span(int seed, int many, int q, int days, int what) throws IllegalArgumentException {
        need(many >= 1 && many <= 20 && q >= 0 && q <= 16);
        need(days >= 1 && days <= 96 && what >= 0 && what <= 2);
        int fewest = 0;
        int most = 0;
        int withSwings = 0;
        for (int i = 0; i < many; i++) {
            year.live(state, law, seed + i, q, days);
            fewest = i == 0 ? year.passings : Math.min(fewest, year.passings);
            most = Math.max(most, year.passings);
            withSwings += year.state.swings > 0 ? 1 : 0;
        }
        if (what == 0) {
            return fewest;
        }
        return what == 1 ? most : withSwings;
    }

    // ---- images, counts ----

    public int image() {
        if (imagesKept < 0 || imagesKept >= MOST_IMAGES) {
            return -1;
        }
        images[imagesKept] = state;
        imagesKept++;
        return imagesKept;
    }

    public int restore() {
        if (imagesKept < 1 || imagesKept > MOST_IMAGES) {
            return -1;
        }
        State kept = images[imagesKept - 1];
        if (kept == null) {
            return -1;
        }
        state = kept;
        imagesKept--;
        refusedSteps = 0;
        return imagesKept;
    }

    public int status(int what) {
        if (what == 0) {
            return refusedElements;
        }
        return what == 1 ? refusedArguments : NONE;
    }

    public int count(int what) {
        switch (what) {
            case 0: return imagesKept;
            case 1: return tape.filled;
            case 2: return state.works;
            default: return NONE;
        }
    }

    // ---- refusals ----

    private void need(boolean right) {
        if (!right) {
            refusedArguments++;
            throw new IllegalArgumentException("an argument is out of its bounds");
        }
    }

    private void needSoul(int soul) {
        if (!state.parish.isSoul(soul)) {
            refusedElements++;
            throw new NoSuchElementException("no such soul");
        }
    }

    private void needGrudge(int grudge) {
        if (!state.parish.isGrudge(grudge)) {
            refusedElements++;
            throw new NoSuchElementException("no such grudge");
        }
    }

    private void openText(int n, int most) {
        need(n >= 0 && n <= most && n <= tape.filled);
        tape.open(n);
    }

    // ---- the TAPE ----

    /** The bytes that were fed, and the text being read from them, left to right, up to its first FAULT. */
    private static final class Tape {
        private final byte[] bytes = new byte[TAPE_BYTES];
        private int filled = 0;
        private int length = 0;
        private int at = 0;
        /** Where the latest word, number or sign began. */
        private int place = 0;
        private int faultKind = 0;
        private int faultPlace = NONE;

        void append(int number) {
            for (int shift = 24; shift >= 0; shift -= 8) {
                if (filled >= 0 && filled < TAPE_BYTES) {
                    bytes[filled] = (byte) (number >>> shift);
                    filled++;
                }
            }
        }

        void open(int n) {
            length = n;
            at = 0;
            place = 0;
            faultKind = 0;
            faultPlace = NONE;
            filled = 0;
        }

        boolean failed() {
            return faultKind != 0;
        }

        int refusal() {
            return faultKind - 10;
        }

        void fail(int kind) {
            if (faultKind == 0) {
                faultKind = kind;
                faultPlace = place;
            }
        }

        /** What stands next behind blanks; NONE at the end. */
        int next() {
            while (at >= 0 && at < length && at < TAPE_BYTES && bytes[at] == ' ') {
                at++;
            }
            place = at;
            return at >= 0 && at < length && at < TAPE_BYTES ? bytes[at] & 255 : NONE;
        }

        boolean goesOn() {
            return !failed() && next() != NONE;
        }

        boolean takes(char sign) {
            if (failed() || next() != sign) {
                return false;
            }
            at++;
            return true;
        }

        void mustTake(char sign) {
            if (failed()) {
                return;
            }
            if (next() == sign) {
                at++;
            } else {
                fail(CANT_STAND);
            }
        }

        /** A number from low to high; 0, with a FAULT, where none such stands. */
        int takeNumber(int low, int high) {
            if (failed()) {
                return 0;
            }
            if (!isDigit(next())) {
                fail(CANT_STAND);
                return 0;
            }
            int value = 0;
            while (at >= 0 && at < length && at < TAPE_BYTES && isDigit(bytes[at])) {
                // Six digits are above every bound; more would wrap.
                value = value < 100000 ? value * 10 + bytes[at] - '0' : value;
                at++;
            }
            if (value < low || value > high) {
                fail(NO_SUCH);
                return 0;
            }
            return value;
        }

        void takeWord() {
            next();
            while (at >= 0 && at < length && at < TAPE_BYTES && bytes[at] >= 'a' && bytes[at] <= 'z') {
                at++;
            }
        }

        /** Whether the word that was taken last is this one. */
        boolean wordIs(String word) {
            int many = word.length();
            if (failed() || at - place != many || place < 0 || place + many > TAPE_BYTES) {
                return false;
            }
            for (int i = 0; i < many; i++) {
                if (bytes[place + i] != word.charAt(i)) {
                    return false;
                }
            }
            return true;
        }

        static boolean isDigit(int sign) {
            return sign >= '0' && sign <= '9';
        }
    }

    // ---- the PARISH ----

    /** What a PARISH tells; nothing in it changes once it was read. */
    private static final class Parish {
        private int souls = 0;
        private int grudges = 0;
        private final int[] pride = new int[MOST_SOULS];
        private final int[] waits = new int[MOST_SOULS];
        private final int[] heir = new int[MOST_SOULS];
        private final int[] holder = new int[MOST_GRUDGES];
        private final int[] against = new int[MOST_GRUDGES];
        private final int[] sum = new int[MOST_GRUDGES];

        boolean isSoul(int soul) {
            return soul >= 0 && soul < souls && soul < MOST_SOULS;
        }

        boolean isGrudge(int grudge) {
            return grudge >= 0 && grudge < grudges && grudge < MOST_GRUDGES;
        }

        int allBits() {
            return (1 << souls) - 1;
        }

        int prideOf(int soul) {
            return isSoul(soul) ? pride[soul] : 0;
        }

        int waitsOf(int soul) {
            return isSoul(soul) ? waits[soul] : 0;
        }

        int heirOf(int soul) {
            return isSoul(soul) ? heir[soul] : NONE;
        }

        int againstOf(int grudge) {
            return isGrudge(grudge) ? against[grudge] : NONE;
        }

        boolean waitsFor(int soul, int other) {
            return isSoul(other) && (waitsOf(soul) >> other & 1) == 1;
        }

        void readFrom(Tape tape) {
            for (int clauses = 0; clauses <= MOST_CLAUSES && tape.goesOn(); clauses++) {
                readClause(tape, clauses >= MOST_CLAUSES);
                tape.mustTake(';');
            }
        }

        private void readClause(Tape tape, boolean tooMany) {
            tape.takeWord();
            if (tape.wordIs("soul")) {
                readSoul(tape, tooMany);
            } else if (tape.wordIs("grudge")) {
                readGrudge(tape, tooMany);
            } else if (tape.wordIs("waits")) {
                readWaits(tape, tooMany);
            } else if (tape.wordIs("heir")) {
                readHeir(tape, tooMany);
            } else {
                tape.fail(CANT_STAND);
            }
        }

        private void readSoul(Tape tape, boolean tooMany) {
            if (tooMany || souls < 0 || souls >= MOST_SOULS) {
                tape.fail(TOO_MANY);
                return;
            }
            int told = tape.takeNumber(1, MOST_PRIDE);
            if (!tape.failed()) {
                pride[souls] = told;
                heir[souls] = NONE;
                souls++;
            }
        }

        private void readGrudge(Tape tape, boolean tooMany) {
            if (tooMany || grudges < 0 || grudges >= MOST_GRUDGES) {
                tape.fail(TOO_MANY);
                return;
            }
            int a = tape.takeNumber(0, souls - 1);
            int b = readOther(tape, a);
            if (holdsAlready(a, b)) {
                tape.fail(NO_SUCH);
            }
            int told = tape.takeNumber(1, MOST_SUM);
            if (!tape.failed()) {
                holder[grudges] = a;
                against[grudges] = b;
                sum[grudges] = told;
                grudges++;
            }
        }

        private boolean holdsAlready(int a, int b) {
            for (int g = 0; g < MOST_GRUDGES; g++) {
                if (g < grudges && holder[g] == a && against[g] == b) {
                    return true;
                }
            }
            return false;
        }

        private void readWaits(Tape tape, boolean tooMany) {
            if (tooMany) {
                tape.fail(TOO_MANY);
            }
            int a = tape.takeNumber(0, souls - 1);
            int b = readOther(tape, a);
            if (!tape.failed() && isSoul(a)) {
                waits[a] |= 1 << b;
            }
        }

        private void readHeir(Tape tape, boolean tooMany) {
            if (tooMany) {
                tape.fail(TOO_MANY);
            }
            int a = tape.takeNumber(0, souls - 1);
            int b = readOther(tape, a);
            if (!tape.failed() && isSoul(a)) {
                heir[a] = b;
            }
        }

        private int readOther(Tape tape, int a) {
            int b = tape.takeNumber(0, souls - 1);
            if (b == a) {
                tape.fail(NO_SUCH);
            }
            return b;
        }
    }

    // ---- the LAW ----

    /** A LAW as a row of numbers and signs, each sign behind what it is done with. */
    private static final class Law {
        private static final int FACTS = 7;
        private static final int SUM = -1;
        private static final int PRIDE = -2;
        private static final int TIMES = -3;
        private static final int OWED = -4;
        private static final int OTHERS = -5;
        private static final int WEEK = -6;
        private static final int SOUL = -7;
        private static final int PLUS = -8;
        private static final int MINUS = -9;
        private static final int MULTIPLY = -10;
        private static final int DIVIDE = -11;
        private static final int REST = -12;
        private static final int LEAST = -13;
        private static final int MOST = -14;
        /** Six may be open at one time, three values wait in each at most, and three in the innermost. */
        private static final int STACK = 32;
        private static final int[] WITHOUT = {1, SUM, 10, DIVIDE, PLUS};

        private final int[] code;
        private final int size;
        private final int[] facts = new int[FACTS];
        private final int[] stack = new int[STACK];
        private int top = 0;

        Law() {
            code = WITHOUT;
            size = WITHOUT.length;
        }

        Law(int[] code, int size) {
            this.code = code;
            this.size = size;
        }

        int worth(int sum, int pride, int times, int owed, int others, int week, int soul) {
            facts[0] = sum;
            facts[1] = pride;
            facts[2] = times;
            facts[3] = owed;
            facts[4] = others;
            facts[5] = week;
            facts[6] = soul;
            return Math.min(MOST_WORTH, Math.max(0, value()));
        }

        private int value() {
            top = 0;
            for (int i = 0; i < size && i < code.length; i++) {
                int sign = code[i];
                int fact = -1 - sign;
                if (sign >= 0) {
                    push(sign);
                } else if (fact < FACTS) {
                    push(facts[fact]);
                } else {
                    int right = pop();
                    int left = pop();
                    push(combined(sign, left, right));
                }
            }
            return pop();
        }

        private void push(int value) {
            if (top >= 0 && top < STACK) {
                stack[top] = value;
                top++;
            }
        }

        private int pop() {
            if (top < 1 || top > STACK) {
                return 0;
            }
            top--;
            return stack[top];
        }

        private static int combined(int sign, int left, int right) {
            switch (sign) {
                case PLUS: return left + right;
                case MINUS: return left - right;
                case MULTIPLY: return left * right;
                case DIVIDE: return right == 0 ? 0 : left / right;
                case REST: return right == 0 ? 0 : left % right;
                case LEAST: return left < right ? left : right;
                default: return left > right ? left : right;
            }
        }
    }

    /** Reads a LAW; open counts what is open around the part that is being read. */
    private static final class LawReader {
        private final Tape tape;
        private final int[] code;
        private int size = 0;

        /** No text of so many bytes needs a longer row: each sign of it is a byte at least. */
        LawReader(Tape tape, int bytes) {
            this.tape = tape;
            this.code = new int[Math.max(0, Math.min(bytes, LAW_BYTES))];
        }

        private void put(int sign) {
            if (size < code.length) {
                code[size] = sign;
                size++;
            }
        }

        void readSum(int open) {
            readProduct(open);
            for (int i = 0; i < LAW_BYTES && !tape.failed(); i++) {
                if (tape.takes('+')) {
                    readProduct(open);
                    put(Law.PLUS);
                } else if (tape.takes('-')) {
                    readProduct(open);
                    put(Law.MINUS);
                } else {
                    return;
                }
            }
        }

        private void readProduct(int open) {
            readUnit(open);
            for (int i = 0; i < LAW_BYTES && !tape.failed(); i++) {
                if (tape.takes('*')) {
                    readUnit(open);
                    put(Law.MULTIPLY);
                } else if (tape.takes('/')) {
                    readUnit(open);
                    put(Law.DIVIDE);
                } else if (tape.takes('%')) {
                    readUnit(open);
                    put(Law.REST);
                } else {
                    return;
                }
            }
        }

        private void readUnit(int open) {
            if (tape.failed()) {
                return;
            }
            int next = tape.next();
            if (Tape.isDigit(next)) {
                put(tape.takeNumber(0, 999));
            } else if (next == '(') {
                readBracket(open);
            } else {
                readNamed(open);
            }
        }

        private void readBracket(int open) {
            if (open >= MOST_OPEN) {
                tape.fail(TOO_MANY);
                return;
            }
            tape.mustTake('(');
            readSum(open + 1);
            tape.mustTake(')');
        }

        private void readNamed(int open) {
            tape.takeWord();
            if (tape.wordIs("least")) {
                readPair(Law.LEAST, open);
            } else if (tape.wordIs("most")) {
                readPair(Law.MOST, open);
            } else if (factNamed() != 0) {
                put(factNamed());
            } else {
                tape.fail(CANT_STAND);
            }
        }

        private int factNamed() {
            if (tape.wordIs("sum")) {
                return Law.SUM;
            }
            if (tape.wordIs("pride")) {
                return Law.PRIDE;
            }
            if (tape.wordIs("times")) {
                return Law.TIMES;
            }
            if (tape.wordIs("owed")) {
                return Law.OWED;
            }
            if (tape.wordIs("others")) {
                return Law.OTHERS;
            }
            if (tape.wordIs("week")) {
                return Law.WEEK;
            }
            return tape.wordIs("soul") ? Law.SOUL : 0;
        }

        private void readPair(int sign, int open) {
            if (open >= MOST_OPEN) {
                tape.fail(TOO_MANY);
                return;
            }
            tape.mustTake('[');
            readSum(open + 1);
            tape.mustTake(',');
            readSum(open + 1);
            tape.mustTake(']');
            put(sign);
        }
    }

    // ---- WORK ----

    /** A STEP, with the one behind it, and what stands inside an again. */
    private static final class Step {
        private static final int FORGIVE = 0;
        private static final int LIE = 1;
        private static final int DRINK = 2;
        private static final int BEGIN = 3;
        private static final int PASS = 4;
        private static final int DIE = 5;
        private static final int WEEK = 6;
        private static final int AGAIN = 7;

        private final int kind;
        private final int a;
        private final int b;
        private final int third;
        private Step inside = null;
        private Step next = null;

        Step(int kind, int a, int b, int third) {
            this.kind = kind;
            this.a = a;
            this.b = b;
            this.third = third;
        }
    }

    private static final class WorkReader {
        private final Tape tape;
        private final Parish parish;

        WorkReader(Tape tape, Parish parish) {
            this.tape = tape;
            this.parish = parish;
        }

        /** The STEPS up to the end of the text, or, inside an again, up to its bracket. */
        Step readSteps(int open) {
            Step first = null;
            Step last = null;
            for (int i = 0; i < WORK_BYTES && isStepNext(open); i++) {
                Step step = readStep(open);
                tape.mustTake(';');
                if (last == null) {
                    first = step;
                } else {
                    last.next = step;
                }
                last = step;
            }
            return first;
        }

        private boolean isStepNext(int open) {
            return open == 0 ? tape.goesOn() : !tape.failed() && tape.next() != ']';
        }

        private Step readStep(int open) {
            tape.takeWord();
            if (tape.wordIs("again")) {
                return readAgain(open);
            }
            if (tape.wordIs("forgive")) {
                return new Step(Step.FORGIVE, readGrudge(), 0, 0);
            }
            if (tape.wordIs("lie")) {
                return new Step(Step.LIE, readGrudge(), 0, 0);
            }
            if (tape.wordIs("drink")) {
                return new Step(Step.DRINK, readSoul(), readSoul(), 0);
            }
            if (tape.wordIs("begin")) {
                return new Step(Step.BEGIN, readSoul(), readSoul(), readSoul());
            }
            if (tape.wordIs("pass")) {
                return new Step(Step.PASS, readSoul(), 0, 0);
            }
            if (tape.wordIs("die")) {
                return new Step(Step.DIE, readSoul(), 0, 0);
            }
            if (!tape.wordIs("week")) {
                tape.fail(CANT_STAND);
            }
            return new Step(Step.WEEK, 0, 0, 0);
        }

        private int readGrudge() {
            return tape.takeNumber(0, parish.grudges - 1);
        }

        private int readSoul() {
            return tape.takeNumber(0, parish.souls - 1);
        }

        private Step readAgain(int open) {
            if (open >= MOST_OPEN) {
                tape.fail(TOO_MANY);
                return new Step(Step.AGAIN, 0, 0, 0);
            }
            Step again = new Step(Step.AGAIN, tape.takeNumber(0, MOST_AGAIN), 0, 0);
            tape.mustTake('[');
            again.inside = readSteps(open + 1);
            tape.mustTake(']');
            return again;
        }
    }

    /** Does the STEPS of one WORK, and counts them. */
    private static final class Worker {
        private final State state;
        private final Law law;
        private int begun = 0;
        private int done = 0;
        private int refused = 0;

        Worker(State state, Law law) {
            this.state = state;
            this.law = law;
        }

        void doSteps(Step first, int depth) {
            if (depth > MOST_OPEN) {
                return;
            }
            for (Step step = first; step != null && begun < MOST_STEPS; step = step.next) {
                begun++;
                if (step.kind == Step.AGAIN) {
                    for (int i = 0; i < step.a && begun < MOST_STEPS; i++) {
                        doSteps(step.inside, depth + 1);
                    }
                } else if (isDone(step)) {
                    done++;
                } else {
                    refused++;
                }
            }
        }

        private boolean isDone(Step step) {
            switch (step.kind) {
                case Step.FORGIVE: return state.forgiveOne(step.a, law, false);
                case Step.LIE: return state.forgiveOne(step.a, law, true);
                case Step.DRINK: return state.drinkTogether(step.a, step.b);
                case Step.BEGIN: return state.seeTo(step.a, step.b, step.third);
                case Step.PASS: return state.passOne(step.a);
                case Step.DIE: return state.bury(step.a);
                default: return state.endWeek(LAST_WEEK);
            }
        }
    }

    // ---- what WORK changes ----

    /**
     * All that WORK changes. A WORK changes a copy alone, which keeps the state ahead of it: to undo, and to
     * go back to an IMAGE, is to take the earlier state again.
     */
    private static final class State {
        private Parish parish;
        private State ahead = null;
        private int works = 0;
        private int week = 0;
        private int swings = 0;
        private int living = 0;
        private int begun = 0;
        private int liars = 0;
        private int through = 0;
        private int forgiven = 0;
        /** For each SOUL those for whom it needn't wait this week, since a third saw to it. */
        private final int[] seen = new int[MOST_SOULS];
        private final int[] forgivings = new int[MOST_SOULS];
        private final int[] holder = new int[MOST_GRUDGES];
        /** 0: there is no such GRUDGE, or it is gone. */
        private final int[] sum = new int[MOST_GRUDGES];
        private final int[] times = new int[MOST_GRUDGES];

        State(Parish parish) {
            this.parish = parish;
            living = parish.allBits();
            for (int g = 0; g < MOST_GRUDGES; g++) {
                holder[g] = parish.holder[g];
                sum[g] = parish.sum[g];
            }
        }

        State behindThis() {
            State copy = new State(parish);
            copy.take(this);
            copy.ahead = this;
            copy.works = works + 1;
            return copy;
        }

        /** Becomes as the other one, but for the WORKS that can be undone. */
        void take(State other) {
            parish = other.parish;
            week = other.week;
            swings = other.swings;
            living = other.living;
            begun = other.begun;
            liars = other.liars;
            through = other.through;
            forgiven = other.forgiven;
            for (int soul = 0; soul < MOST_SOULS; soul++) {
                seen[soul] = other.seen[soul];
                forgivings[soul] = other.forgivings[soul];
            }
            for (int g = 0; g < MOST_GRUDGES; g++) {
                holder[g] = other.holder[g];
                sum[g] = other.sum[g];
                times[g] = other.times[g];
            }
        }

        // -- SOULS --

        boolean lives(int soul) {
            return soul >= 0 && soul < MOST_SOULS && (living >> soul & 1) == 1;
        }

        boolean canBegin(int soul) {
            return lives(soul) && (parish.waitsOf(soul) & living & ~begun & ~seen[soul]) == 0;
        }

        boolean canPass(int soul) {
            return lives(soul) && (through >> soul & 1) == 0 && swings > 0;
        }

        int forgivingsOf(int soul) {
            return parish.isSoul(soul) ? forgivings[soul] : 0;
        }

        int sumsBy(int soul) {
            int together = 0;
            for (int g = 0; g < MOST_GRUDGES; g++) {
                together += isBy(g, soul) ? sum[g] : 0;
            }
            return together;
        }

        int sumsAgainst(int soul) {
            int together = 0;
            for (int g = 0; g < MOST_GRUDGES; g++) {
                together += isAgainst(g, soul) ? sum[g] : 0;
            }
            return together;
        }

        int manyBy(int soul) {
            int many = 0;
            for (int g = 0; g < MOST_GRUDGES; g++) {
                many += isBy(g, soul) ? 1 : 0;
            }
            return many;
        }

        int manyAgainst(int soul) {
            int many = 0;
            for (int g = 0; g < MOST_GRUDGES; g++) {
                many += isAgainst(g, soul) ? 1 : 0;
            }
            return many;
        }

        /** Against whom any of these SOULS (bits) holds a GRUDGE, as bits. */
        int targetsOf(int souls) {
            int targets = 0;
            for (int g = 0; g < MOST_GRUDGES; g++) {
                if (isThere(g) && (souls >> holder[g] & 1) == 1) {
                    targets |= 1 << parish.againstOf(g);
                }
            }
            return targets;
        }

        int forgiversOf(int soul) {
            int bits = 0;
            for (int g = 0; g < MOST_GRUDGES; g++) {
                if (isAgainst(g, soul) && isForgiven(g)) {
                    bits |= 1 << holder[g];
                }
            }
            return bits;
        }

        // -- GRUDGES --

        boolean isThere(int grudge) {
            return grudge >= 0 && grudge < MOST_GRUDGES && sum[grudge] > 0;
        }

        boolean isForgiven(int grudge) {
            return grudge >= 0 && grudge < MOST_GRUDGES && (forgiven >> grudge & 1) == 1;
        }

        boolean isBy(int grudge, int soul) {
            return isThere(grudge) && holder[grudge] == soul;
        }

        boolean isAgainst(int grudge, int soul) {
            return isThere(grudge) && parish.against[grudge] == soul;
        }

        int holderOf(int grudge) {
            return grudge >= 0 && grudge < MOST_GRUDGES ? holder[grudge] : NONE;
        }

        int sumOf(int grudge) {
            return grudge >= 0 && grudge < MOST_GRUDGES ? sum[grudge] : 0;
        }

        int timesOf(int grudge) {
            return grudge >= 0 && grudge < MOST_GRUDGES ? times[grudge] : 0;
        }

        int thereBits() {
            int bits = 0;
            for (int g = 0; g < MOST_GRUDGES; g++) {
                bits |= isThere(g) ? 1 << g : 0;
            }
            return bits;
        }

        /** The GRUDGE that one holds against another one; NONE. */
        int find(int by, int against) {
            for (int g = 0; g < MOST_GRUDGES; g++) {
                if (sum[g] > 0 && holder[g] == by && parish.against[g] == against) {
                    return g;
                }
            }
            return NONE;
        }

        int worthOf(int grudge, Law law) {
            if (!isThere(grudge)) {
                return 0;
            }
            int a = holderOf(grudge);
            int b = parish.againstOf(grudge);
            int owed = sumOf(find(b, a));
            int others = manyAgainst(b) - 1;
            return law.worth(sumOf(grudge), parish.prideOf(a), timesOf(grudge), owed, others, week, a);
        }

        boolean canForgive(int grudge) {
            return isThere(grudge) && !isForgiven(grudge) && canBegin(holderOf(grudge));
        }

        boolean goesToHeir(int grudge) {
            int heir = parish.heirOf(holderOf(grudge));
            int b = parish.againstOf(grudge);
            return lives(heir) && heir != b && find(heir, b) == NONE && sumOf(grudge) / 2 > 0;
        }

        // -- STEPS: each tells whether it was done --

        boolean forgiveOne(int grudge, Law law, boolean lies) {
            if (grudge < 0 || grudge >= MOST_GRUDGES || !canForgive(grudge)) {
                return false;
            }
            int a = holder[grudge];
            if (a < 0 || a >= MOST_SOULS) {
                return false;
            }
            swings += worthOf(grudge, law);
            forgiven |= 1 << grudge;
            times[grudge]++;
            forgivings[a]++;
            begun |= 1 << a;
            liars |= lies ? 1 << a : 0;
            return true;
        }

        boolean drinkTogether(int a, int b) {
            if (a == b || !lives(a) || !lives(b)) {
                return false;
            }
            int between = 0;
            for (int g = 0; g < MOST_GRUDGES; g++) {
                if (isBy(g, a) && isAgainst(g, b) || isBy(g, b) && isAgainst(g, a)) {
                    between |= 1 << g;
                }
            }
            if ((forgiven & between) == 0) {
                return false;
            }
            forgiven &= ~between;
            return true;
        }

        boolean seeTo(int a, int b, int third) {
            boolean three = a != b && a != third && b != third;
            if (!three || !lives(a) || !lives(b) || !lives(third)) {
                return false;
            }
            boolean both = parish.waitsFor(a, b) && parish.waitsFor(b, a);
            if (!both || (seen[a] >> b & 1) == 1) {
                return false;
            }
            seen[a] |= 1 << b;
            seen[b] |= 1 << a;
            liars |= 1 << third;
            return true;
        }

        boolean passOne(int soul) {
            if (!canPass(soul)) {
                return false;
            }
            through |= 1 << soul;
            swings--;
            return true;
        }

        boolean bury(int soul) {
            if (!lives(soul)) {
                return false;
            }
            living &= ~(1 << soul);
            for (int g = 0; g < MOST_GRUDGES; g++) {
                if (isAgainst(g, soul)) {
                    sum[g] = 0;
                    forgiven &= ~(1 << g);
                }
            }
            for (int g = 0; g < MOST_GRUDGES; g++) {
                if (isBy(g, soul)) {
                    leave(g);
                }
            }
            return true;
        }

        /** A GRUDGE whose A died goes to the heir, or is gone. */
        private void leave(int grudge) {
            if (grudge < 0 || grudge >= MOST_GRUDGES) {
                return;
            }
            forgiven &= ~(1 << grudge);
            if (goesToHeir(grudge)) {
                holder[grudge] = parish.heirOf(holder[grudge]);
                sum[grudge] /= 2;
                times[grudge] = 0;
            } else {
                sum[grudge] = 0;
            }
        }

        /** Refused from this WEEK on. */
        boolean endWeek(int last) {
            if (week >= last) {
                return false;
            }
            forgiven = 0;
            swings = 0;
            through = 0;
            begun = 0;
            liars = 0;
            for (int soul = 0; soul < MOST_SOULS; soul++) {
                seen[soul] = 0;
            }
            week++;
            return true;
        }
    }

    // ---- the BOOK ----

    /** For each SOUL with a line how many lied of those who forgave it. */
    private static final class Book {
        private final int[] liars = new int[MOST_SOULS];
        private int lines = 0;
        private int size = 0;

        boolean has(int soul) {
            return soul >= 0 && soul < MOST_SOULS && (lines >> soul & 1) == 1;
        }

        int liarsTo(int soul) {
            return soul >= 0 && soul < MOST_SOULS ? liars[soul] : 0;
        }

        void readFrom(Tape tape, int souls) {
            for (int i = 0; i < BOOK_BYTES && tape.goesOn(); i++) {
                int b = tape.takeNumber(0, souls - 1);
                if (has(b)) {
                    tape.fail(NO_SUCH);
                }
                int many = tape.takeNumber(0, MOST_LIARS);
                tape.mustTake(';');
                if (!tape.failed() && b >= 0 && b < MOST_SOULS) {
                    liars[b] = many;
                    lines |= 1 << b;
                    size++;
                }
            }
        }
    }

    // ---- a YEAR ----

    /** A YEAR lived by a copy of the state: the state itself stays as it is. */
    private static final class Year {
        private static final int NO_LAST_WEEK = 1000000;

        private final State state = new State(new Parish());
        private int seed = 0;
        private int forgivings = 0;
        private int passings = 0;

        void live(State from, Law law, int firstSeed, int q, int days) {
            state.take(from);
            seed = firstSeed;
            forgivings = 0;
            passings = 0;
            int grudges = state.parish.grudges;
            int souls = state.parish.souls;
            for (int day = 0; day < days && grudges > 0; day++) {
                if (state.forgiveOne(draw(grudges), law, false)) {
                    forgivings++;
                }
                if (state.passOne(draw(souls))) {
                    passings++;
                }
                if (draw(16) < q) {
                    state.endWeek(NO_LAST_WEEK);
                }
            }
        }

        private int draw(int by) {
            seed = seed * 1103515245 + 12345;
            return by > 0 ? (seed >>> 16 & 32767) % by : 0;
        }
    }
}
