import java.util.Arrays;

/** A bazaar whose porters hand loads on to their left and to nobody else. */
public final class LeftHands {
    public static final int NONE = -1;

    private static final int STANDS = 12;
    private static final int LOADS = 8;
    private static final int LAWS = 6;
    private static final int SIGNS = 8;
    private static final int IMAGES = 2;
    private static final int TAPE_ROOM = 400;
    private static final int MINUTES = 100;

    private static final int WEIGHT = 0;
    private static final int FROM = 1;
    private static final int WANT = 2;
    private static final int START = 3;
    private static final int HASTE = 4;
    private static final int PAY = 5;
    private static final int FACTS = 6;

    private static final int BAD_NUMBER = -1;
    private static final int NO_SUCH = -2;
    private static final int CANNOT_BE = -3;
    private static final int NO_ROOM = -5;
    private static final int BAD_TEXT = -6;
    private static final int CODES = 7;

    private static final int GREATEST_SEED = 1000000;
    private static final int SEED_FACTOR = 1103;
    private static final int SEED_STEP = 12345;
    private static final int SEED_MODULUS = 1000003;

    private final Bazaar now;
    private final Bazaar[] images;
    private final boolean[] imageKept;
    private final Tape tape;
    private final LawReader reader;
    private final Ways ways;
    private final Day today;
    private final Day trial;
    private final Swapper swapper;
    private final Sender sender;
    private final Fees fees;
    private final int[] drawnCome;
    private final int[] drawnStart;
    private final int[] refusals;
    private boolean todayKnown;
    private int drawnLoads;
    private int droppedLately;
    private int statusNow;

    public LeftHands() {
        now = new Bazaar();
        images = new Bazaar[IMAGES];
        for (int k = 0; k < IMAGES; k++) {
            images[k] = new Bazaar();
        }
        imageKept = new boolean[IMAGES];
        tape = new Tape();
        reader = new LawReader(tape);
        ways = new Ways(now);
        Judge judge = new Judge(now);
        today = new Day(now, judge);
        trial = new Day(now, judge);
        swapper = new Swapper(now, trial);
        sender = new Sender(now, trial);
        fees = new Fees(now, judge);
        drawnCome = new int[LOADS];
        drawnStart = new int[LOADS];
        refusals = new int[CODES];
    }

    public int stand(int left, int strength, int fee) {
        if (!within(left, NONE, STANDS - 1) || !isStrength(strength) || !isFee(fee)) {
            return refused(BAD_NUMBER);
        }
        if (now.stands >= STANDS) {
            return refused(NO_ROOM);
        }
        changed();
        return accepted(now.addStand(left, strength, fee));
    }

    public int put(int stand, int what, int value) {
        boolean can = what == 0 && within(value, NONE, STANDS - 1)
            || what == 1 && isStrength(value)
            || what == 2 && isFee(value);
        if (!can) {
            return refused(BAD_NUMBER);
        }
        if (!now.hasStand(stand)) {
            return refused(NO_SUCH);
        }
        int[] row = what == 0 ? now.left : what == 1 ? now.strength : now.fee;
        int before = row[stand];
        row[stand] = value;
        changed();
        return accepted(before);
    }

    public int of(int stand, int what) {
        if (!now.hasStand(stand)) {
            return NONE;
        }
        switch (what) {
            case 0: return now.left[stand];
            case 1: return now.strength[stand];
            case 2: return now.fee[stand];
            case 3: return now.next(stand);
            default: return NONE;
        }
    }

    public int load(int weight, int from, int want, int start, int haste, int pay) {
        int why = whyNoLoad(weight, from, want, start, haste, pay);
        if (why != 0) {
            return refused(why);
        }
        changed();
        return accepted(now.addLoad(weight, from, want, start, haste, pay));
    }

    public int fact(int load, int what) {
        return now.hasLoad(load) && within(what, 0, FACTS - 1) ? now.about(load, what) : NONE;
    }

    public int drop(int load) {
        if (!now.hasLoad(load)) {
            return refused(NO_SUCH);
        }
        now.removeLoad(load);
        changed();
        return accepted(now.loads);
    }

    public int terms(int what, int value) {
        int before;
        if (what == 0 && within(value, 0, MINUTES - 1)) {
            before = now.noon;
            now.noon = value;
        } else if (what == 1 && within(value, 1, 4)) {
            before = now.hands;
            now.hands = value;
        } else {
            return refused(BAD_NUMBER);
        }
        changed();
        return accepted(before);
    }

    public int feed(int a, int b, int c, int d, int e) {
        if (tape.length + 20 > TAPE_ROOM) {
            return NONE;
        }
        tape.append(a);
        tape.append(b);
        tape.append(c);
        tape.append(d);
        tape.append(e);
        return tape.length;
    }

    public int end(int n) {
        if (!within(n, 0, tape.length)) {
            return NONE;
        }
        tape.length = n;
        return n;
    }

    public int row() {
        int length = tape.length;
        if (length == 0) {
            return refused(BAD_TEXT);
        }
        int came = 0;
        int lost = 0;
        for (int i = 0; i < length; i += FACTS) {
            if (i + FACTS <= length && addFromTape(i)) {
                came++;
            } else {
                lost++;
            }
        }
        tape.length = 0;
        droppedLately = lost;
        changed();
        return accepted(came);
    }

    public int dropped() {
        return droppedLately;
    }

    public int law() {
        if (now.laws >= LAWS) {
            tape.length = 0;
            return refused(NO_ROOM);
        }
        boolean good = reader.read();
        tape.length = 0;
        if (!good) {
            return refused(BAD_TEXT);
        }
        return accepted(now.addLaw(reader.draft));
    }

    public int fault() {
        return reader.fault;
    }

    public int force(int law) {
        if (law != NONE && !within(law, 0, now.laws - 1)) {
            return refused(NO_SUCH);
        }
        int before = now.inForce;
        now.inForce = law;
        changed();
        return accepted(before);
    }

    public int way(int load, int i) {
        if (!now.hasLoad(load)) {
            return NONE;
        }
        return i == NONE ? now.handsOf(load) : ways.standOf(load, i);
    }

    public int enter(int want, int without) {
        return now.hasStand(want) && areBits(without, now.stands) ? ways.comersTo(want, without) : NONE;
    }

    public int day(int load, int what) {
        if (!now.hasLoad(load)) {
            return NONE;
        }
        Day day = dayNow();
        int come = day.come[load];
        switch (what) {
            case 0: return come;
            case 1: return come == NONE ? NONE : Math.max(0, come - now.noon);
            case 2: return day.at[load];
            case 3: return day.waited[load];
            default: return NONE;
        }
    }

    public int where(int load, int minute) {
        return now.hasLoad(load) && within(minute, 0, MINUTES - 1) ? dayNow().placeBehind(load, minute) : NONE;
    }

    public int held(int stand, int minute, int what) {
        if (!now.hasStand(stand) || !within(minute, 0, MINUTES - 1) || !within(what, 0, 1)) {
            return NONE;
        }
        Day day = dayNow();
        int sum = 0;
        for (int l = 0; l < now.loads; l++) {
            if (day.placeBehind(l, minute) == stand) {
                sum += what == 0 ? 1 : now.about(l, WEIGHT);
            }
        }
        return sum;
    }

    public int choke() {
        return dayNow().chokingRound();
    }

    public int swaps(int loads, int what) {
        return areBits(loads, now.loads) ? swapper.told(loads, what) : NONE;
    }

    public int swap(int one, int other) {
        if (!now.hasStand(one) || !now.hasStand(other)) {
            return refused(NO_SUCH);
        }
        if (one == other) {
            return refused(CANNOT_BE);
        }
        exchange(now.strength, one, other);
        exchange(now.fee, one, other);
        changed();
        return accepted(0);
    }

    public int home(int what) {
        return within(what, 0, 2) ? sender.told(what) : NONE;
    }

    public int cost(int load) {
        return now.hasLoad(load) ? fees.costOf(load) : NONE;
    }

    public int sent(int load) {
        if (!now.hasLoad(load)) {
            return NONE;
        }
        int cost = fees.costOf(load);
        return cost != NONE && cost <= now.about(load, PAY) ? 1 : 0;
    }

    public int income(int stand) {
        return now.hasStand(stand) ? fees.incomeOf(stand) : NONE;
    }

    public int answer(int stand, int what) {
        return now.hasStand(stand) && within(what, 0, 1) ? fees.answerOf(stand, what) : NONE;
    }

    public int restless() {
        return fees.firstRestless();
    }

    public int rests(int what) {
        if (what != NONE && !now.hasStand(what)) {
            return NONE;
        }
        fees.settle();
        return fees.settled(what);
    }

    public int pieces(int load) {
        return now.hasLoad(load) ? ways.minutesInPieces(load) : NONE;
    }

    public int sign(int stand, int hands) {
        if (!within(hands, 0, 99)) {
            return refused(BAD_NUMBER);
        }
        if (!now.hasStand(stand)) {
            return refused(NO_SUCH);
        }
        if (now.signs >= SIGNS) {
            return refused(NO_ROOM);
        }
        now.signStand[now.signs] = stand;
        now.signHands[now.signs] = hands;
        now.signs++;
        return accepted(now.signs);
    }

    public int clear() {
        int before = now.signs;
        now.signs = 0;
        return before;
    }

    public int thieves() {
        return ways.suspects();
    }

    public int meet(int one, int other, int what) {
        if (!now.hasStand(one) || !now.hasStand(other) || !within(what, 0, 1)) {
            return NONE;
        }
        return ways.meeting(one, other, what);
    }

    public int draw(int seed) {
        if (!within(seed, 0, GREATEST_SEED)) {
            return refused(BAD_NUMBER);
        }
        trial.layOut(0);
        int s = seed;
        for (int l = 0; l < now.loads; l++) {
            s = drawAfter(s);
            trial.start[l] = s % 30;
        }
        for (int p = 0; p < now.stands; p++) {
            s = drawAfter(s);
            if (s % 3 == 0) {
                trial.strength[p] = Math.max(1, trial.strength[p] - 1);
            }
        }
        trial.runWhole();
        drawnLoads = now.loads;
        System.arraycopy(trial.come, 0, drawnCome, 0, LOADS);
        System.arraycopy(trial.start, 0, drawnStart, 0, LOADS);
        return accepted(trial.comeByNoon());
    }

    public int drawn(int load, int what) {
        if (!within(load, 0, drawnLoads - 1) || !within(what, 0, 1)) {
            return NONE;
        }
        return what == 0 ? drawnCome[load] : drawnStart[load];
    }

    public int image(int k) {
        Bazaar kept = imageOf(k);
        if (kept == null) {
            return refused(BAD_NUMBER);
        }
        kept.become(now);
        imageKept[k] = true;
        return accepted(0);
    }

    public int back(int k) {
        Bazaar kept = imageOf(k);
        if (kept == null) {
            return refused(BAD_NUMBER);
        }
        if (!imageKept[k]) {
            return refused(NO_SUCH);
        }
        now.become(kept);
        changed();
        return accepted(0);
    }

    public int count(int what) {
        switch (what) {
            case 0: return now.stands;
            case 1: return now.loads;
            case 2: return now.laws;
            case 3: return now.signs;
            case 4: return dayNow().comeByNoon();
            case 5: return dayNow().failures();
            case 6: return tape.length;
            case 7: return refusals[-BAD_NUMBER];
            case 8: return refusals[-NO_SUCH];
            case 9: return refusals[-CANNOT_BE];
            case 10: return refusals[-NO_ROOM];
            case 11: return refusals[-BAD_TEXT];
            case 12: return now.inForce;
            case 13: return now.noon;
            case 14: return now.hands;
            default: return NONE;
        }
    }

    public int status() {
        return statusNow;
    }

    private int refused(int why) {
        statusNow = why;
        if (within(-why, 0, CODES - 1)) {
            refusals[-why]++;
        }
        return why;
    }

    private int accepted(int answer) {
        statusNow = 0;
        return answer;
    }

    // What was reckoned of the bazaar as it was before is reckoned anew when it is asked for.
    private void changed() {
        todayKnown = false;
        swapper.forget();
        sender.forget();
        fees.forget();
    }

    private Day dayNow() {
        if (!todayKnown) {
            today.layOut(0);
            today.runWhole();
            todayKnown = true;
        }
        return today;
    }

    private Bazaar imageOf(int k) {
        return within(k, 0, IMAGES - 1) ? images[k] : null;
    }

    private int whyNoLoad(int weight, int from, int want, int start, int haste, int pay) {
        if (!within(weight, 1, 9) || !within(start, 0, MINUTES - 1) || !within(haste, 0, 9) || !within(pay, 0, 9999)) {
            return BAD_NUMBER;
        }
        if (!now.hasStand(from) || !now.hasStand(want)) {
            return NO_SUCH;
        }
        return now.loads >= LOADS ? NO_ROOM : 0;
    }

    private boolean addFromTape(int i) {
        int weight = tape.at(i + WEIGHT);
        int from = tape.at(i + FROM);
        int want = tape.at(i + WANT);
        int start = tape.at(i + START);
        int haste = tape.at(i + HASTE);
        int pay = tape.at(i + PAY);
        if (whyNoLoad(weight, from, want, start, haste, pay) != 0) {
            return false;
        }
        now.addLoad(weight, from, want, start, haste, pay);
        return true;
    }

    private static int drawAfter(int s) {
        return (s * SEED_FACTOR + SEED_STEP) % SEED_MODULUS;
    }

    private static boolean isStrength(int value) {
        return within(value, 1, 9);
    }

    private static boolean isFee(int value) {
        return within(value, 0, 99);
    }

    private static boolean within(int value, int low, int high) {
        return value >= low && value <= high;
    }

    private static boolean hasBit(int bits, int k) {
        return (bits >> k & 1) != 0;
    }

    private static boolean areBits(int bits, int howMany) {
        return bits >= 0 && bits >> howMany == 0;
    }

    private static void exchange(int[] row, int one, int other) {
        int kept = row[one];
        row[one] = row[other];
        row[other] = kept;
    }

    /** All that an image keeps: stands, loads, laws, terms, signs. */
    private static final class Bazaar {
        int stands;
        final int[] left = new int[STANDS];
        final int[] strength = new int[STANDS];
        final int[] fee = new int[STANDS];
        int loads;
        private final int[] facts = new int[LOADS * FACTS];
        int laws;
        private final Law[] lawRow = new Law[LAWS];
        private final Law noLaw = new Law();
        int inForce = NONE;
        int noon = 60;
        int hands = 2;
        int signs;
        final int[] signStand = new int[SIGNS];
        final int[] signHands = new int[SIGNS];

        Bazaar() {
            for (int k = 0; k < LAWS; k++) {
                lawRow[k] = new Law();
            }
        }

        void become(Bazaar other) {
            stands = other.stands;
            System.arraycopy(other.left, 0, left, 0, STANDS);
            System.arraycopy(other.strength, 0, strength, 0, STANDS);
            System.arraycopy(other.fee, 0, fee, 0, STANDS);
            loads = other.loads;
            System.arraycopy(other.facts, 0, facts, 0, LOADS * FACTS);
            laws = other.laws;
            for (int k = 0; k < LAWS; k++) {
                lawAt(k).become(other.lawAt(k));
            }
            inForce = other.inForce;
            noon = other.noon;
            hands = other.hands;
            signs = other.signs;
            System.arraycopy(other.signStand, 0, signStand, 0, SIGNS);
            System.arraycopy(other.signHands, 0, signHands, 0, SIGNS);
        }

        boolean hasStand(int s) {
            return s >= 0 && s < stands;
        }

        boolean hasLoad(int l) {
            return l >= 0 && l < loads;
        }

        int addStand(int itsLeft, int itsStrength, int itsFee) {
            if (stands >= STANDS) {
                return NONE;
            }
            left[stands] = itsLeft;
            strength[stands] = itsStrength;
            fee[stands] = itsFee;
            stands++;
            return stands - 1;
        }

        int addLoad(int weight, int from, int want, int start, int haste, int pay) {
            if (loads >= LOADS) {
                return NONE;
            }
            int base = loads * FACTS;
            facts[base + WEIGHT] = weight;
            facts[base + FROM] = from;
            facts[base + WANT] = want;
            facts[base + START] = start;
            facts[base + HASTE] = haste;
            facts[base + PAY] = pay;
            loads++;
            return loads - 1;
        }

        void removeLoad(int load) {
            if (hasLoad(load)) {
                int behind = (load + 1) * FACTS;
                System.arraycopy(facts, behind, facts, load * FACTS, loads * FACTS - behind);
                loads--;
            }
        }

        int addLaw(Law draft) {
            if (laws >= LAWS) {
                return NONE;
            }
            lawAt(laws).become(draft);
            laws++;
            return laws - 1;
        }

        Law lawInForce() {
            return lawAt(inForce);
        }

        private Law lawAt(int k) {
            Law law = k >= 0 && k < LAWS ? lawRow[k] : null;
            return law == null ? noLaw : law;
        }

        int about(int load, int what) {
            return load >= 0 && load < loads && what >= 0 && what < FACTS ? facts[load * FACTS + what] : NONE;
        }

        int next(int s) {
            return hasStand(s) && hasStand(left[s]) ? left[s] : NONE;
        }

        int nextPast(int s, int home) {
            int t = next(s);
            for (int steps = 0; steps < STANDS && t != NONE && hasBit(home, t); steps++) {
                t = next(t);
            }
            return t != NONE && hasBit(home, t) ? NONE : t;
        }

        int handsOf(int load) {
            int s = about(load, FROM);
            int want = about(load, WANT);
            for (int done = 0; done < STANDS && s != NONE; done++) {
                if (s == want) {
                    return done;
                }
                s = next(s);
            }
            return NONE;
        }
    }

    /** The bytes that were fed and not yet read. */
    private static final class Tape {
        private final int[] bytes = new int[TAPE_ROOM];
        int length;

        void append(int four) {
            for (int shift = 24; shift >= 0 && length < TAPE_ROOM; shift -= 8) {
                bytes[length] = four >>> shift & 255;
                length++;
            }
        }

        int at(int i) {
            return i >= 0 && i < length && i < TAPE_ROOM ? bytes[i] : NONE;
        }
    }

    /** A law as it is asked: its clauses, each a run of steps for its sum and one for its test. */
    private static final class Law {
        static final int FIRST = 0;
        static final int FEE = 1;
        static final int BARS = 2;
        static final int CLAUSES = 12;

        static final int NUMBER = 0;
        static final int WORD = 1;
        static final int PLUS = 2;
        static final int MINUS = 3;
        static final int TIMES = 4;
        static final int OVER = 5;
        static final int LESS = 6;
        static final int MORE = 7;
        static final int SAME = 8;
        static final int NOT = 9;
        static final int AND = 10;
        static final int OR = 11;

        int length;
        // No step without a token of its own, so a tape's length is room for all.
        final int[] kinds = new int[TAPE_ROOM];
        final int[] values = new int[TAPE_ROOM];
        int clauses;
        int spoken;
        final int[] heads = new int[CLAUSES];
        final int[] sumFrom = new int[CLAUSES];
        final int[] testFrom = new int[CLAUSES];
        final int[] till = new int[CLAUSES];

        void become(Law other) {
            length = other.length;
            System.arraycopy(other.kinds, 0, kinds, 0, TAPE_ROOM);
            System.arraycopy(other.values, 0, values, 0, TAPE_ROOM);
            clauses = other.clauses;
            spoken = other.spoken;
            System.arraycopy(other.heads, 0, heads, 0, CLAUSES);
            System.arraycopy(other.sumFrom, 0, sumFrom, 0, CLAUSES);
            System.arraycopy(other.testFrom, 0, testFrom, 0, CLAUSES);
            System.arraycopy(other.till, 0, till, 0, CLAUSES);
        }

        void wipe() {
            length = 0;
            clauses = 0;
            spoken = 0;
        }

        boolean speaksOf(int head) {
            return hasBit(spoken, head);
        }

        boolean asksOfTime() {
            for (int i = 0; i < length && i < TAPE_ROOM; i++) {
                if (kinds[i] == WORD && (values[i] == Judge.MINUTE || values[i] == Judge.WAITS)) {
                    return true;
                }
            }
            return false;
        }

        int add(int kind, int value) {
            if (length >= TAPE_ROOM) {
                return NONE;
            }
            kinds[length] = kind;
            values[length] = value;
            length++;
            return length - 1;
        }

        void aimAtEnd(int step) {
            if (step >= 0 && step < length) {
                values[step] = length;
            }
        }
    }

    /** Reads the tape as a law, going down the rules of the grammar. */
    private static final class LawReader {
        private static final int LETTERS = 0;
        private static final int DIGITS = 1;
        private static final int SINGLE = 2;
        private static final int END = 3;
        private static final int TEST = 0;
        private static final int BOTH = 1;
        private static final int SUM = 2;
        private static final int TERM = 3;
        private static final int PARTS = 50;
        private static final int BRACKETS = 8;
        private static final int GREATEST = 1000;

        private final Tape tape;
        final Law draft = new Law();
        int fault = NONE;
        private int kind;
        private int place;
        private int behind;
        private int parts;

        LawReader(Tape itsTape) {
            tape = itsTape;
        }

        boolean read() {
            fault = NONE;
            behind = 0;
            parts = 0;
            draft.wipe();
            step();
            readClause();
            for (int i = 0; i < TAPE_ROOM && fault == NONE && isSingle(';'); i++) {
                step();
                readClause();
            }
            if (kind != END) {
                fail();
            }
            return fault == NONE;
        }

        private void readClause() {
            int head = isWord("first") ? Law.FIRST : isWord("fee") ? Law.FEE : isWord("bars") ? Law.BARS : NONE;
            int k = draft.clauses;
            if (head == NONE || k >= Law.CLAUSES) {
                fail();
                return;
            }
            step();
            draft.clauses = k + 1;
            draft.heads[k] = head;
            draft.spoken |= 1 << head;
            draft.sumFrom[k] = draft.length;
            if (head != Law.BARS) {
                readJoined(SUM, 0);
            }
            draft.testFrom[k] = draft.length;
            if (fault == NONE && isWord("if")) {
                step();
                readJoined(TEST, 0);
            }
            draft.till[k] = draft.length;
        }

        // TEST, BOTH, SUM and TERM are one rule: parts of the next one, and what joins them.
        private void readJoined(int rule, int depth) {
            int how = NONE;
            int jump = NONE;
            for (int i = 0; i < TAPE_ROOM; i++) {
                if (rule == BOTH) {
                    readPlain(depth);
                } else if (rule == TERM) {
                    readPart(depth);
                } else {
                    readJoined(rule + 1, depth);
                }
                if (jump != NONE) {
                    draft.aimAtEnd(jump);
                } else if (how != NONE) {
                    draft.add(how, 0);
                }
                how = fault == NONE ? joinHere(rule) : NONE;
                if (how == NONE) {
                    return;
                }
                step();
                jump = rule == TEST || rule == BOTH ? draft.add(how, 0) : NONE;
            }
        }

        private int joinHere(int rule) {
            switch (rule) {
                case TEST: return isWord("or") ? Law.OR : NONE;
                case BOTH: return isWord("and") ? Law.AND : NONE;
                case SUM: return isSingle('+') ? Law.PLUS : isSingle('-') ? Law.MINUS : NONE;
                default: return isSingle('*') ? Law.TIMES : isSingle('/') ? Law.OVER : NONE;
            }
        }

        private void readPlain(int depth) {
            boolean turned = false;
            for (int i = 0; i < TAPE_ROOM && isWord("not"); i++) {
                step();
                turned = !turned;
            }
            if (isSingle('(')) {
                open(depth);
                if (fault == NONE) {
                    readJoined(TEST, depth + 1);
                    expect(')');
                }
            } else {
                readJoined(SUM, depth);
                int how = comparisonHere();
                if (how == NONE) {
                    fail();
                    return;
                }
                step();
                readJoined(SUM, depth);
                draft.add(how, 0);
            }
            if (turned) {
                draft.add(Law.NOT, 0);
            }
        }

        private int comparisonHere() {
            return isSingle('<') ? Law.LESS : isSingle('>') ? Law.MORE : isSingle('=') ? Law.SAME : NONE;
        }

        private void readPart(int depth) {
            if (isSingle('[')) {
                open(depth);
                if (fault == NONE) {
                    readJoined(SUM, depth + 1);
                    expect(']');
                }
                return;
            }
            int what = kind == DIGITS ? Law.NUMBER : Law.WORD;
            int value = kind == DIGITS ? numberHere() : wordHere();
            if (value == NONE || value > GREATEST || parts >= PARTS) {
                fail();
                return;
            }
            parts++;
            draft.add(what, value);
            step();
        }

        private void open(int depth) {
            if (depth >= BRACKETS) {
                fail();
            } else {
                step();
            }
        }

        private void expect(char sign) {
            if (isSingle(sign)) {
                step();
            } else {
                fail();
            }
        }

        // What is found wrong behind the first fault follows from it.
        private void fail() {
            if (fault == NONE) {
                fault = place;
            }
        }

        private void step() {
            int i = behind;
            while (i < tape.length && tape.at(i) == ' ') {
                i++;
            }
            place = i;
            kind = kindOf(tape.at(i));
            if (kind != END) {
                i++;
            }
            while (i < tape.length && kind != SINGLE && kindOf(tape.at(i)) == kind) {
                i++;
            }
            behind = i;
        }

        private static int kindOf(int sign) {
            if (sign == NONE) {
                return END;
            }
            return sign >= 'a' && sign <= 'z' ? LETTERS : sign >= '0' && sign <= '9' ? DIGITS : SINGLE;
        }

        private boolean isSingle(char sign) {
            return kind == SINGLE && tape.at(place) == sign;
        }

        private boolean isWord(String word) {
            if (kind != LETTERS || behind - place != word.length()) {
                return false;
            }
            for (int i = 0; i < word.length(); i++) {
                if (tape.at(place + i) != word.charAt(i)) {
                    return false;
                }
            }
            return true;
        }

        private int numberHere() {
            int value = 0;
            for (int i = place; i < behind && value <= GREATEST; i++) {
                value = value * 10 + tape.at(i) - '0';
            }
            return value;
        }

        private int wordHere() {
            for (int k = 0; k < Judge.WORDS; k++) {
                if (isWord(Judge.nameOf(k))) {
                    return k;
                }
            }
            return NONE;
        }
    }

    /** Asks a law of a load at a stand. */
    private static final class Judge {
        static final int WORDS = 9;
        static final int MINUTE = 5;
        static final int WAITS = 6;
        private static final int STACK = 64;
        private static final long BOUND = 1000000000L;

        private final Bazaar bazaar;
        private final long[] words = new long[WORDS];
        private final long[] stack = new long[STACK];
        private boolean broken;

        Judge(Bazaar itsBazaar) {
            bazaar = itsBazaar;
        }

        static String nameOf(int word) {
            switch (word) {
                case 0: return "load";
                case 1: return "weight";
                case 2: return "haste";
                case 3: return "stand";
                case 4: return "left";
                case MINUTE: return "minute";
                case WAITS: return "waits";
                case 7: return "strength";
                case 8: return "asks";
                default: return "";
            }
        }

        /** What the law in force tells by a head: a rank, what is got, or 1 for barred. */
        long tells(int head, int load, int stand, int minute, int waits, int strength, int asks) {
            words[0] = load;
            words[1] = bazaar.about(load, WEIGHT);
            words[2] = bazaar.about(load, HASTE);
            words[3] = stand;
            words[4] = bazaar.next(stand);
            words[MINUTE] = minute;
            words[WAITS] = waits;
            words[7] = strength;
            words[8] = asks;
            Law law = bazaar.lawInForce();
            for (int k = Math.min(law.clauses, Law.CLAUSES) - 1; k >= 0; k--) {
                if (law.heads[k] != head) {
                    continue;
                }
                broken = false;
                boolean so = law.testFrom[k] == law.till[k] || worth(law, law.testFrom[k], law.till[k]) != 0;
                if (so && !broken) {
                    long told = head == Law.BARS ? 1 : worth(law, law.sumFrom[k], law.testFrom[k]);
                    if (!broken) {
                        return told;
                    }
                }
            }
            return head == Law.FEE ? asks : 0;
        }

        private long worth(Law law, int from, int till) {
            broken = false;
            int end = Math.min(till, TAPE_ROOM);
            int at = Math.max(0, from);
            int top = 0;
            for (int steps = 0; steps < TAPE_ROOM && at < end && !broken; steps++) {
                int kind = law.kinds[at];
                int value = law.values[at];
                at++;
                if (kind == Law.NUMBER || kind == Law.WORD) {
                    if (top < STACK) {
                        stack[top] = kind == Law.NUMBER ? value : value >= 0 && value < WORDS ? words[value] : 0;
                        top++;
                    }
                } else if (kind == Law.NOT) {
                    if (top > 0) {
                        stack[top - 1] = 1 - stack[top - 1];
                    }
                } else if (kind == Law.AND || kind == Law.OR) {
                    if (top > 0 && (stack[top - 1] != 0) == (kind == Law.OR)) {
                        at = Math.max(at, value);
                    } else {
                        top = Math.max(0, top - 1);
                    }
                } else if (top > 1) {
                    top--;
                    stack[top - 1] = joined(kind, stack[top - 1], stack[top]);
                }
            }
            return stack[0];
        }

        private long joined(int kind, long a, long b) {
            long sum = 0;
            switch (kind) {
                case Law.PLUS: sum = a + b; break;
                case Law.MINUS: sum = a - b; break;
                case Law.TIMES: sum = a * b; break;
                case Law.OVER:
                    if (b == 0) {
                        broken = true;
                    } else {
                        sum = a / b;
                    }
                    break;
                case Law.LESS: return a < b ? 1 : 0;
                case Law.MORE: return a > b ? 1 : 0;
                default: return a == b ? 1 : 0;
            }
            broken = broken || sum > BOUND || sum < -BOUND;
            return sum;
        }
    }

    /** What is told of next stands alone. */
    private static final class Ways {
        // Two that go on by next are, together, in no more states than this.
        private static final int PAIRS = STANDS * STANDS;

        private final Bazaar bazaar;

        Ways(Bazaar itsBazaar) {
            bazaar = itsBazaar;
        }

        int standOf(int load, int i) {
            return within(i, 0, bazaar.handsOf(load)) ? standAfter(bazaar.about(load, FROM), i) : NONE;
        }

        int comersTo(int want, int without) {
            int comers = 0;
            for (int s = 0; s < bazaar.stands; s++) {
                int t = s;
                for (int i = 0; i < STANDS && t != NONE && t != want && !hasBit(without, t); i++) {
                    t = bazaar.next(t);
                }
                if (t == want && !hasBit(without, want)) {
                    comers |= 1 << s;
                }
            }
            return comers;
        }

        int suspects() {
            int all = 0;
            for (int s = 0; s < bazaar.stands; s++) {
                if (fitsSigns(s)) {
                    all |= 1 << s;
                }
            }
            return all;
        }

        private boolean fitsSigns(int s) {
            for (int k = 0; k < bazaar.signs && k < SIGNS; k++) {
                if (standAfter(s, bazaar.signHands[k]) != bazaar.signStand[k]) {
                    return false;
                }
            }
            return true;
        }

        int meeting(int one, int other, int what) {
            int a = one;
            int b = other;
            for (int hands = 0; hands <= PAIRS && a != NONE && b != NONE; hands++) {
                if (a == b) {
                    return what == 0 ? hands : a;
                }
                a = bazaar.next(a);
                b = bazaar.next(b);
            }
            return NONE;
        }

        int minutesInPieces(int load) {
            int hands = bazaar.handsOf(load);
            int s = bazaar.about(load, FROM);
            int least = 9;
            for (int i = 0; i < hands && bazaar.hasStand(s); i++) {
                least = Math.min(least, bazaar.strength[s]);
                s = bazaar.next(s);
            }
            if (hands <= 0 || least < 1) {
                return hands;
            }
            return hands + (bazaar.about(load, WEIGHT) + least - 1) / least - 1;
        }

        private int standAfter(int from, int hands) {
            int s = from;
            for (int i = 0; i < hands && s != NONE; i++) {
                s = bazaar.next(s);
            }
            return s;
        }
    }

    /** A day, minute by minute, with porters and starts that may differ from the bazaar's. */
    private static final class Day {
        private final Bazaar bazaar;
        private final Judge judge;
        final int[] strength = new int[STANDS];
        final int[] fee = new int[STANDS];
        final int[] start = new int[LOADS];
        private final int[] next = new int[STANDS];
        private final int[] hands = new int[LOADS];
        private final int[] handsLeft = new int[LOADS];
        final int[] at = new int[LOADS];
        final int[] come = new int[LOADS];
        final int[] waited = new int[LOADS];
        private final int[] waits = new int[LOADS];
        private final int[] heldLoads = new int[STANDS];
        private final int[] heldWeight = new int[STANDS];
        private final long[] rank = new long[LOADS];
        private final int[] turns = new int[LOADS];
        private int lined;
        private final int[] places = new int[MINUTES * LOADS];
        private boolean moved;

        Day(Bazaar itsBazaar, Judge itsJudge) {
            bazaar = itsBazaar;
            judge = itsJudge;
        }

        /** Takes the bazaar as it is, some porters sent home. */
        void layOut(int home) {
            System.arraycopy(bazaar.strength, 0, strength, 0, STANDS);
            System.arraycopy(bazaar.fee, 0, fee, 0, STANDS);
            for (int s = 0; s < bazaar.stands; s++) {
                next[s] = bazaar.nextPast(s, home);
            }
            for (int l = 0; l < bazaar.loads; l++) {
                start[l] = bazaar.about(l, START);
                hands[l] = handsToWant(l);
            }
        }

        private int handsToWant(int l) {
            int s = bazaar.about(l, FROM);
            int want = bazaar.about(l, WANT);
            for (int done = 0; done < STANDS && bazaar.hasStand(s); done++) {
                if (s == want) {
                    return done;
                }
                s = next[s];
            }
            return NONE;
        }

        void runWhole() {
            begin();
            for (int minute = 0; minute < MINUTES; minute++) {
                arrive(minute);
                lineUp(minute);
                goOn(minute);
                System.arraycopy(at, 0, places, minute * LOADS, LOADS);
            }
        }

        /** Whether all of some loads come by a minute; the day is left as soon as that is sure. */
        boolean comesBy(int loads, int last) {
            if (!canComeBy(loads, last)) {
                return false;
            }
            begin();
            int open = loads;
            int stillFrom = lastStart();
            boolean timeless = !bazaar.lawInForce().asksOfTime();
            for (int minute = 0; minute < MINUTES && open != 0; minute++) {
                moved = false;
                arrive(minute);
                lineUp(minute);
                goOn(minute);
                for (int l = 0; l < bazaar.loads; l++) {
                    if (hasBit(open, l) && come[l] != NONE) {
                        open -= 1 << l;
                    } else if (hasBit(open, l) && minute + handsLeft[l] > last) {
                        return false;
                    }
                }
                // Where nothing but time has changed and no law asks of time, nothing changes any more.
                if (open != 0 && !moved && timeless && minute >= stillFrom) {
                    return false;
                }
            }
            return open == 0;
        }

        private int lastStart() {
            int latest = 0;
            for (int l = 0; l < bazaar.loads; l++) {
                latest = Math.max(latest, start[l]);
            }
            return latest;
        }

        private boolean canComeBy(int loads, int last) {
            for (int l = 0; l < bazaar.loads; l++) {
                if (hasBit(loads, l) && (hands[l] == NONE || start[l] + Math.max(0, hands[l] - 1) > last || !isCarried(l))) {
                    return false;
                }
            }
            return true;
        }

        private boolean isCarried(int l) {
            int s = bazaar.about(l, FROM);
            int weight = bazaar.about(l, WEIGHT);
            for (int i = 0; i < hands[l] && bazaar.hasStand(s); i++) {
                if (strength[s] < weight) {
                    return false;
                }
                s = next[s];
            }
            return true;
        }

        private void begin() {
            Arrays.fill(at, NONE);
            Arrays.fill(come, NONE);
            Arrays.fill(waits, 0);
            Arrays.fill(waited, 0);
            Arrays.fill(heldLoads, 0);
            Arrays.fill(heldWeight, 0);
            System.arraycopy(hands, 0, handsLeft, 0, LOADS);
        }

        private void arrive(int minute) {
            for (int l = 0; l < bazaar.loads; l++) {
                if (start[l] < minute && at[l] == NONE && come[l] == NONE) {
                    admit(l, minute);
                }
            }
            for (int l = 0; l < bazaar.loads; l++) {
                if (start[l] == minute) {
                    admit(l, minute);
                }
            }
        }

        private void admit(int l, int minute) {
            int from = bazaar.about(l, FROM);
            if (from == bazaar.about(l, WANT)) {
                come[l] = minute;
            } else if (canHold(from, l)) {
                take(from, l);
            }
        }

        private boolean canHold(int s, int l) {
            return bazaar.hasStand(s) && heldLoads[s] < bazaar.hands
                && heldWeight[s] + bazaar.about(l, WEIGHT) <= strength[s];
        }

        private void take(int s, int l) {
            if (bazaar.hasStand(s)) {
                at[l] = s;
                waits[l] = 0;
                moved = true;
                heldLoads[s]++;
                heldWeight[s] += bazaar.about(l, WEIGHT);
            }
        }

        private void giveUp(int s, int l) {
            if (bazaar.hasStand(s)) {
                at[l] = NONE;
                heldLoads[s]--;
                heldWeight[s] -= bazaar.about(l, WEIGHT);
            }
        }

        // Ranks are told for all before any goes on: they stand as they are ahead of all.
        private void lineUp(int minute) {
            boolean ranked = bazaar.lawInForce().speaksOf(Law.FIRST);
            lined = 0;
            for (int l = 0; l < bazaar.loads; l++) {
                int s = at[l];
                if (!bazaar.hasStand(s)) {
                    continue;
                }
                rank[l] = ranked ? judge.tells(Law.FIRST, l, s, minute, waits[l], strength[s], fee[s]) : 0;
                int i = lined;
                while (i > 0 && rank[turns[i - 1]] < rank[l]) {
                    turns[i] = turns[i - 1];
                    i--;
                }
                turns[i] = l;
                lined++;
            }
        }

        private void goOn(int minute) {
            boolean barring = bazaar.lawInForce().speaksOf(Law.BARS);
            for (int i = 0; i < lined; i++) {
                int l = turns[i];
                int s = at[l];
                if (!bazaar.hasStand(s)) {
                    continue;
                }
                int t = next[s];
                boolean there = t == bazaar.about(l, WANT);
                boolean goes = t != NONE && (there || canHold(t, l));
                if (goes && barring) {
                    goes = judge.tells(Law.BARS, l, s, minute, waits[l], strength[s], fee[s]) == 0;
                }
                if (!goes) {
                    waits[l]++;
                    waited[l]++;
                    continue;
                }
                moved = true;
                giveUp(s, l);
                handsLeft[l]--;
                if (there) {
                    come[l] = minute;
                } else {
                    take(t, l);
                }
            }
        }

        int placeBehind(int l, int minute) {
            return places[minute * LOADS + l];
        }

        int comeByNoon() {
            int sum = 0;
            for (int l = 0; l < bazaar.loads; l++) {
                if (come[l] != NONE && come[l] <= bazaar.noon) {
                    sum++;
                }
            }
            return sum;
        }

        int failures() {
            int sum = 0;
            for (int l = 0; l < bazaar.loads; l++) {
                if (come[l] == NONE) {
                    sum++;
                }
            }
            return sum;
        }

        int chokingRound() {
            int stuck = 0;
            for (int l = 0; l < bazaar.loads; l++) {
                if (isStuck(l)) {
                    stuck |= 1 << at[l];
                }
            }
            for (int s = 0; s < bazaar.stands; s++) {
                int round = roundOf(s, stuck);
                if (round != 0) {
                    return round;
                }
            }
            return 0;
        }

        /** Whether a load is held at the end because the porter at next can't hold it, and for nothing else. */
        private boolean isStuck(int l) {
            int s = at[l];
            if (!bazaar.hasStand(s)) {
                return false;
            }
            int t = next[s];
            // The porter of the stand that it wants need not hold it.
            if (t == NONE || t == bazaar.about(l, WANT) || canHold(t, l)) {
                return false;
            }
            // The law was asked in the last minute, which is not yet one of those it had waited by then.
            int waitsThen = Math.max(0, waits[l] - 1);
            return judge.tells(Law.BARS, l, s, MINUTES - 1, waitsThen, strength[s], fee[s]) == 0;
        }

        private int roundOf(int s, int stuck) {
            int round = 0;
            int t = s;
            for (int i = 0; i < STANDS && bazaar.hasStand(t) && hasBit(stuck, t); i++) {
                round |= 1 << t;
                t = next[t];
                if (t == s) {
                    return round;
                }
            }
            return 0;
        }
    }

    /** The fewest swaps of porters by which some loads come by noon. */
    private static final class Swapper {
        private static final int UNKNOWN = -1;

        private final Bazaar bazaar;
        private final Day day;
        private int loads = UNKNOWN;
        private int fewest;
        private int rows;
        private final int[] first = new int[4];

        Swapper(Bazaar itsBazaar, Day itsDay) {
            bazaar = itsBazaar;
            day = itsDay;
        }

        void forget() {
            loads = UNKNOWN;
        }

        int told(int ofLoads, int what) {
            if (loads != ofLoads) {
                loads = ofLoads;
                rows = 0;
                day.layOut(0);
                fewest = 0;
                tryNone();
                if (rows == 0) {
                    fewest = 1;
                    tryOne();
                }
                if (rows == 0) {
                    fewest = 2;
                    tryTwo();
                }
                if (rows == 0) {
                    fewest = NONE;
                }
            }
            if (what == 0) {
                return fewest;
            }
            if (what == 5) {
                return rows;
            }
            return what >= 1 && what <= 4 && what <= 2 * fewest ? first[what - 1] : NONE;
        }

        private void tryNone() {
            if (day.comesBy(loads, bazaar.noon)) {
                found(NONE, NONE, NONE, NONE, 1);
            }
        }

        private void tryOne() {
            for (int a = 0; a < bazaar.stands; a++) {
                for (int b = a + 1; b < bazaar.stands; b++) {
                    change(a, b);
                    if (day.comesBy(loads, bazaar.noon)) {
                        found(a, b, NONE, NONE, 1);
                    }
                    change(a, b);
                }
            }
        }

        private void tryTwo() {
            for (int a = 0; a < bazaar.stands; a++) {
                for (int b = a + 1; b < bazaar.stands; b++) {
                    change(a, b);
                    for (int c = a; c < bazaar.stands; c++) {
                        for (int d = c + 1; d < bazaar.stands; d++) {
                            int alike = rowsLike(a, b, c, d);
                            change(c, d);
                            if (alike > 0 && day.comesBy(loads, bazaar.noon)) {
                                found(a, b, c, d, alike);
                            }
                            change(c, d);
                        }
                    }
                    change(a, b);
                }
            }
        }

        // Rows of two swaps that leave all porters at the same places need but one day: pairs that
        // share no stand do so both ways round (2), those that share one turn three stands about,
        // which three rows do (3). Told here for the lowest row, 0 for the others.
        private static int rowsLike(int a, int b, int c, int d) {
            if (c == a) {
                return d > b ? 3 : 0;
            }
            if (c == b) {
                return 3;
            }
            return d == b ? 0 : c > a ? 2 : 0;
        }

        private void change(int one, int other) {
            exchange(day.strength, one, other);
            exchange(day.fee, one, other);
        }

        private void found(int a, int b, int c, int d, int howMany) {
            if (rows == 0) {
                first[0] = a;
                first[1] = b;
                first[2] = c;
                first[3] = d;
            }
            rows += howMany;
        }
    }

    /** The fewest porters to send home so that all loads come. */
    private static final class Sender {
        private static final int MOST = 3;

        private final Bazaar bazaar;
        private final Day day;
        private boolean known;
        private int fewest;
        private int lowest;
        private int sets;

        Sender(Bazaar itsBazaar, Day itsDay) {
            bazaar = itsBazaar;
            day = itsDay;
        }

        void forget() {
            known = false;
        }

        int told(int what) {
            if (!known) {
                known = true;
                search();
            }
            return what == 0 ? fewest : what == 1 ? lowest : sets;
        }

        private void search() {
            sets = 0;
            lowest = NONE;
            fewest = NONE;
            int needed = 0;
            for (int l = 0; l < bazaar.loads; l++) {
                needed |= 1 << bazaar.about(l, FROM) | 1 << bazaar.about(l, WANT);
            }
            int all = (1 << bazaar.loads) - 1;
            for (int size = 0; size <= MOST && sets == 0; size++) {
                for (int home = 0; home < 1 << bazaar.stands; home++) {
                    if (Integer.bitCount(home) != size || (home & needed) != 0) {
                        continue;
                    }
                    day.layOut(home);
                    if (day.comesBy(all, MINUTES - 1)) {
                        lowest = sets == 0 ? home : lowest;
                        fewest = size;
                        sets++;
                    }
                }
            }
        }
    }

    /** What porters get, and the fees that bring them most. */
    private static final class Fees {
        private static final int FEES = 100;
        private static final int DEAREST = 999;
        private static final int ROUNDS = 50;

        private final Bazaar bazaar;
        private final Judge judge;
        private final int[] asks = new int[STANDS];
        private final int[] others = new int[LOADS];
        private final int[] told = new int[LOADS * STANDS * FEES];
        private boolean toldFresh;
        private boolean telling;
        private int best;
        private int bestIncome;
        private int income;
        private boolean settledKnown;
        private int rounds;
        private final int[] settledFees = new int[STANDS];

        Fees(Bazaar itsBazaar, Judge itsJudge) {
            bazaar = itsBazaar;
            judge = itsJudge;
        }

        void forget() {
            toldFresh = false;
            settledKnown = false;
        }

        int costOf(int load) {
            begin();
            return costBeside(load, NONE);
        }

        int incomeOf(int stand) {
            begin();
            seekAnswer(stand);
            return income;
        }

        int answerOf(int stand, int what) {
            begin();
            seekAnswer(stand);
            return what == 0 ? best : bestIncome;
        }

        int firstRestless() {
            begin();
            for (int s = 0; s < bazaar.stands; s++) {
                seekAnswer(s);
                if (bestIncome > income) {
                    return s;
                }
            }
            return NONE;
        }

        void settle() {
            if (settledKnown) {
                return;
            }
            begin();
            boolean moved = true;
            rounds = 0;
            while (moved && rounds < ROUNDS) {
                rounds++;
                moved = false;
                for (int s = 0; s < bazaar.stands; s++) {
                    seekAnswer(s);
                    if (bestIncome > income) {
                        asks[s] = best;
                        moved = true;
                    }
                }
            }
            if (moved) {
                rounds++;
            }
            System.arraycopy(asks, 0, settledFees, 0, STANDS);
            settledKnown = true;
        }

        /** After settle(): the fee of a stand then, of none the rounds. */
        int settled(int stand) {
            return bazaar.hasStand(stand) ? settledFees[stand] : rounds;
        }

        private void begin() {
            System.arraycopy(bazaar.fee, 0, asks, 0, STANDS);
            if (!toldFresh) {
                toldFresh = true;
                telling = bazaar.lawInForce().speaksOf(Law.FEE);
                if (telling) {
                    Arrays.fill(told, NONE);
                }
            }
        }

        private void seekAnswer(int stand) {
            // What a load costs beside one porter is the same for all fees of his.
            for (int l = 0; l < bazaar.loads; l++) {
                others[l] = costBeside(l, stand);
            }
            income = incomeBy(stand, asks[stand]);
            best = 0;
            bestIncome = NONE;
            for (int fee = 0; fee < FEES; fee++) {
                int byFee = incomeBy(stand, fee);
                if (byFee > bestIncome) {
                    bestIncome = byFee;
                    best = fee;
                }
            }
        }

        private int incomeBy(int stand, int fee) {
            int sum = 0;
            for (int l = 0; l < bazaar.loads; l++) {
                if (others[l] != NONE) {
                    int own = gets(l, stand, fee);
                    if (own + others[l] <= bazaar.about(l, PAY)) {
                        sum += own;
                    }
                }
            }
            return sum;
        }

        /** What a load costs without what one stand gets, or NONE, if that one never hands it on; NONE: in all. */
        private int costBeside(int load, int stand) {
            int hands = bazaar.handsOf(load);
            boolean passed = stand == NONE && hands != NONE;
            int sum = 0;
            int s = bazaar.about(load, FROM);
            for (int i = 0; i < hands && bazaar.hasStand(s); i++) {
                if (s == stand) {
                    passed = true;
                } else {
                    sum += gets(load, s, asks[s]);
                }
                s = bazaar.next(s);
            }
            return passed ? sum : NONE;
        }

        private int gets(int load, int stand, int fee) {
            if (!telling || !bazaar.hasLoad(load) || !bazaar.hasStand(stand) || !isFee(fee)) {
                return fee;
            }
            int k = (load * STANDS + stand) * FEES + fee;
            if (told[k] == NONE) {
                long fees = judge.tells(Law.FEE, load, stand, 0, 0, bazaar.strength[stand], fee);
                told[k] = (int) Math.max(0, Math.min(DEAREST, fees));
            }
            return told[k];
        }
    }
}
