import java.util.ArrayList;
import java.util.Arrays;
import java.util.Comparator;
import java.util.List;

/**
 * The document told a second time, as plainly and as slowly as can be, with nothing kept between
 * calls: what ModelTest holds LeftHands against.
 */
final class Model {
    private static final int NONE = -1;

    /** What a fault or a broken sum unwinds with. */
    private static final class Stop extends RuntimeException {
        private static final long serialVersionUID = 1L;
        final int place;

        Stop(int itsPlace) {
            super(null, null, false, false);
            place = itsPlace;
        }
    }

    record Porter(int strength, int fee) { }

    record Load(int weight, int from, int want, int start, int haste, int pay) { }

    record Sign(int stand, int hands) { }

    record Token(String text, int place) { }

    record Clause(String head, Node sum, Node test) { }

    /** A node of a law: its kind (a word, a sign, "#" for a number), its value, its parts. */
    record Node(String kind, long value, Node one, Node other) { }

    private static final class State {
        List<Integer> left = new ArrayList<>();
        List<Porter> porters = new ArrayList<>();
        List<Load> loads = new ArrayList<>();
        List<List<Clause>> laws = new ArrayList<>();
        int inForce = NONE;
        int noon = 60;
        int hands = 2;
        List<Sign> signs = new ArrayList<>();

        State copy() {
            State s = new State();
            s.left.addAll(left);
            s.porters.addAll(porters);
            s.loads.addAll(loads);
            s.laws.addAll(laws);
            s.inForce = inForce;
            s.noon = noon;
            s.hands = hands;
            s.signs.addAll(signs);
            return s;
        }
    }

    /** A day that was run: where[minute][load], come[load], waited[load], barred[load] at the end. */
    private static final class Run {
        int[][] where = new int[100][];
        int[] come;
        int[] waited;
        boolean[] barred;
        int[] last;
    }

    private State at = new State();
    private final State[] images = new State[2];
    private byte[] tape = new byte[0];
    private int fault = NONE;
    private int dropped = 0;
    private int status = 0;
    private final int[] refusals = new int[7];
    private Run drawnRun = null;
    private int[] drawnStarts = new int[0];

    private int refuse(int why) {
        status = why;
        refusals[-why]++;
        return why;
    }

    private int yes(int answer) {
        status = 0;
        return answer;
    }

    private boolean isStand(int s) {
        return s >= 0 && s < at.left.size();
    }

    private boolean isLoad(int l) {
        return l >= 0 && l < at.loads.size();
    }

    private static boolean in(int v, int low, int high) {
        return low <= v && v <= high;
    }

    int stand(int left, int strength, int fee) {
        if (!in(left, -1, 11) || !in(strength, 1, 9) || !in(fee, 0, 99)) return refuse(-1);
        if (at.left.size() == 12) return refuse(-5);
        at.left.add(left);
        at.porters.add(new Porter(strength, fee));
        return yes(at.left.size() - 1);
    }

    int put(int stand, int what, int value) {
        if (!in(what, 0, 2)) return refuse(-1);
        if (what == 0 && !in(value, -1, 11)) return refuse(-1);
        if (what == 1 && !in(value, 1, 9)) return refuse(-1);
        if (what == 2 && !in(value, 0, 99)) return refuse(-1);
        if (!isStand(stand)) return refuse(-2);
        Porter p = at.porters.get(stand);
        if (what == 0) return yes(at.left.set(stand, value));
        at.porters.set(stand, what == 1 ? new Porter(value, p.fee) : new Porter(p.strength, value));
        return yes(what == 1 ? p.strength : p.fee);
    }

    int of(int stand, int what) {
        if (!isStand(stand)) return NONE;
        if (what == 0) return at.left.get(stand);
        if (what == 1) return at.porters.get(stand).strength;
        if (what == 2) return at.porters.get(stand).fee;
        if (what == 3) return next(stand, 0);
        return NONE;
    }

    private int whyNot(Load l) {
        if (!in(l.weight, 1, 9) || !in(l.start, 0, 99) || !in(l.haste, 0, 9) || !in(l.pay, 0, 9999)) return -1;
        if (!isStand(l.from) || !isStand(l.want)) return -2;
        if (at.loads.size() == 8) return -5;
        return 0;
    }

    int load(int weight, int from, int want, int start, int haste, int pay) {
        Load l = new Load(weight, from, want, start, haste, pay);
        if (whyNot(l) != 0) return refuse(whyNot(l));
        at.loads.add(l);
        return yes(at.loads.size() - 1);
    }

    int fact(int load, int what) {
        if (!isLoad(load) || !in(what, 0, 5)) return NONE;
        Load l = at.loads.get(load);
        return new int[] {l.weight, l.from, l.want, l.start, l.haste, l.pay}[what];
    }

    int drop(int load) {
        if (!isLoad(load)) return refuse(-2);
        at.loads.remove(load);
        return yes(at.loads.size());
    }

    int terms(int what, int value) {
        if (what == 0 && in(value, 0, 99)) {
            int before = at.noon;
            at.noon = value;
            return yes(before);
        }
        if (what == 1 && in(value, 1, 4)) {
            int before = at.hands;
            at.hands = value;
            return yes(before);
        }
        return refuse(-1);
    }

    int feed(int a, int b, int c, int d, int e) {
        if (tape.length + 20 > 400) return NONE;
        int k = tape.length;
        tape = Arrays.copyOf(tape, k + 20);
        for (int n : new int[] {a, b, c, d, e}) {
            tape[k++] = (byte) (n >> 24);
            tape[k++] = (byte) (n >> 16);
            tape[k++] = (byte) (n >> 8);
            tape[k++] = (byte) n;
        }
        return k;
    }

    int end(int n) {
        if (n < 0 || n > tape.length) return NONE;
        tape = Arrays.copyOf(tape, n);
        return n;
    }

    int row() {
        if (tape.length == 0) return refuse(-6);
        int came = 0;
        dropped = 0;
        for (int i = 0; i < tape.length; i += 6) {
            int[] f = new int[6];
            boolean whole = i + 6 <= tape.length;
            for (int k = 0; whole && k < 6; k++) f[k] = tape[i + k] & 255;
            Load l = new Load(f[0], f[1], f[2], f[3], f[4], f[5]);
            if (whole && whyNot(l) == 0) {
                at.loads.add(l);
                came++;
            } else {
                dropped++;
            }
        }
        tape = new byte[0];
        return yes(came);
    }

    int dropped() {
        return dropped;
    }

    // ---- laws

    private List<Token> tokens;
    private int textLength;
    private int next;
    private int parts;

    int law() {
        byte[] text = tape;
        tape = new byte[0];
        if (at.laws.size() == 6) return refuse(-5);
        fault = NONE;
        try {
            at.laws.add(read(text));
        } catch (Stop stop) {
            fault = stop.place;
            return refuse(-6);
        }
        return yes(at.laws.size() - 1);
    }

    private List<Clause> read(byte[] text) {
        tokens = new ArrayList<>();
        textLength = text.length;
        next = 0;
        parts = 0;
        int i = 0;
        while (i < text.length) {
            char c = (char) (text[i] & 255);
            int from = i++;
            if (c == ' ') continue;
            String alike = in(c, 'a', 'z') ? "[a-z]" : in(c, '0', '9') ? "[0-9]" : null;
            while (alike != null && i < text.length && String.valueOf((char) (text[i] & 255)).matches(alike)) i++;
            StringBuilder word = new StringBuilder();
            for (int k = from; k < i; k++) word.append((char) (text[k] & 255));
            tokens.add(new Token(word.toString(), from));
        }
        List<Clause> law = new ArrayList<>();
        do {
            if (law.size() == 12) throw new Stop(place());
            law.add(clause());
        } while (took(";"));
        if (next < tokens.size()) throw new Stop(place());
        return law;
    }

    private int place() {
        return next < tokens.size() ? tokens.get(next).place : textLength;
    }

    private boolean took(String text) {
        if (next < tokens.size() && tokens.get(next).text.equals(text)) {
            next++;
            return true;
        }
        return false;
    }

    private Clause clause() {
        String head = took("first") ? "first" : took("fee") ? "fee" : took("bars") ? "bars" : null;
        if (head == null) throw new Stop(place());
        Node sum = head.equals("bars") ? null : sum(0);
        Node test = took("if") ? test(0) : null;
        return new Clause(head, sum, test);
    }

    private Node test(int depth) {
        Node n = both(depth);
        while (took("or")) n = new Node("or", 0, n, both(depth));
        return n;
    }

    private Node both(int depth) {
        Node n = plain(depth);
        while (took("and")) n = new Node("and", 0, n, plain(depth));
        return n;
    }

    private Node plain(int depth) {
        if (took("not")) return new Node("not", 0, plain(depth), null);
        int place = place();
        if (took("(")) {
            if (depth == 8) throw new Stop(place);
            Node n = test(depth + 1);
            if (!took(")")) throw new Stop(place());
            return n;
        }
        Node n = sum(depth);
        for (String how : new String[] {"<", ">", "="}) {
            if (took(how)) return new Node(how, 0, n, sum(depth));
        }
        throw new Stop(place());
    }

    private Node sum(int depth) {
        Node n = term(depth);
        while (true) {
            if (took("+")) n = new Node("+", 0, n, term(depth));
            else if (took("-")) n = new Node("-", 0, n, term(depth));
            else return n;
        }
    }

    private Node term(int depth) {
        Node n = part(depth);
        while (true) {
            if (took("*")) n = new Node("*", 0, n, part(depth));
            else if (took("/")) n = new Node("/", 0, n, part(depth));
            else return n;
        }
    }

    private Node part(int depth) {
        int place = place();
        if (took("[")) {
            if (depth == 8) throw new Stop(place);
            Node n = sum(depth + 1);
            if (!took("]")) throw new Stop(place());
            return n;
        }
        if (next == tokens.size()) throw new Stop(place);
        String text = tokens.get(next).text;
        next++;
        if (++parts > 50) throw new Stop(place);
        if (text.matches("[0-9]+")) {
            java.math.BigInteger n = new java.math.BigInteger(text);
            if (n.compareTo(java.math.BigInteger.valueOf(1000)) > 0) throw new Stop(place);
            return new Node("#", n.longValue(), null, null);
        }
        if (!text.matches("load|weight|haste|stand|left|minute|waits|strength|asks")) throw new Stop(place);
        return new Node(text, 0, null, null);
    }

    /** A load at a stand, as a law is asked of it. */
    private record Case(int load, int weight, int haste, int stand, int left, int minute, int waits, int strength, int asks) { }

    private static long worth(Node n, Case c) {
        switch (n.kind) {
            case "#": return n.value;
            case "load": return c.load;
            case "weight": return c.weight;
            case "haste": return c.haste;
            case "stand": return c.stand;
            case "left": return c.left;
            case "minute": return c.minute;
            case "waits": return c.waits;
            case "strength": return c.strength;
            case "asks": return c.asks;
            default: break;
        }
        long a = worth(n.one, c);
        long b = worth(n.other, c);
        if (n.kind.equals("/") && b == 0) throw new Stop(0);
        long v = n.kind.equals("+") ? a + b : n.kind.equals("-") ? a - b : n.kind.equals("*") ? a * b : a / b;
        if (Math.abs(v) > 1_000_000_000L) throw new Stop(0);
        return v;
    }

    private static boolean so(Node n, Case c) {
        switch (n.kind) {
            case "or": return so(n.one, c) || so(n.other, c);
            case "and": return so(n.one, c) && so(n.other, c);
            case "not": return !so(n.one, c);
            default: break;
        }
        long a = worth(n.one, c);
        long b = worth(n.other, c);
        return n.kind.equals("<") ? a < b : n.kind.equals(">") ? a > b : a == b;
    }

    private Long told(String head, Case c) {
        Long told = null;
        if (at.inForce == NONE) return null;
        for (Clause clause : at.laws.get(at.inForce)) {
            if (!clause.head.equals(head)) continue;
            try {
                if (clause.test == null || so(clause.test, c)) {
                    told = clause.sum == null ? 1L : (Long) worth(clause.sum, c);
                }
            } catch (Stop broken) {
                continue;
            }
        }
        return told;
    }

    private Case ask(int load, int stand, int minute, int waits, Porter p) {
        Load l = at.loads.get(load);
        return new Case(load, l.weight, l.haste, stand, next(stand, 0), minute, waits, p.strength, p.fee);
    }

    int fault() {
        return fault;
    }

    int force(int law) {
        if (law < -1 || law >= at.laws.size()) return refuse(-2);
        int before = at.inForce;
        at.inForce = law;
        return yes(before);
    }

    // ---- ways

    private int next(int stand, int home) {
        List<Integer> seen = new ArrayList<>();
        int t = stand;
        while (true) {
            t = at.left.get(t);
            if (!isStand(t) || seen.contains(t)) return NONE;
            if ((home >> t & 1) == 0) return t;
            seen.add(t);
        }
    }

    private List<Integer> wayOf(int from, int want, int home) {
        List<Integer> way = new ArrayList<>();
        int s = from;
        while (s != NONE && !way.contains(s)) {
            way.add(s);
            if (s == want) return way;
            s = next(s, home);
        }
        return null;
    }

    private List<Integer> wayOf(int load) {
        return wayOf(at.loads.get(load).from, at.loads.get(load).want, 0);
    }

    int way(int load, int i) {
        if (!isLoad(load)) return NONE;
        List<Integer> way = wayOf(load);
        if (way == null) return NONE;
        if (i == NONE) return way.size() - 1;
        return in(i, 0, way.size() - 1) ? way.get(i) : NONE;
    }

    int enter(int want, int without) {
        if (!isStand(want) || without < 0 || without >= 1 << at.left.size()) return NONE;
        int bits = 0;
        for (int s = 0; s < at.left.size(); s++) {
            List<Integer> way = wayOf(s, want, 0);
            if (way != null && way.stream().noneMatch(t -> (without >> t & 1) != 0)) bits |= 1 << s;
        }
        return bits;
    }

    // ---- days

    private Run run(List<Porter> porters, int[] start, int home) {
        int n = at.loads.size();
        Run run = new Run();
        run.come = new int[n];
        run.waited = new int[n];
        run.barred = new boolean[n];
        int[] where = new int[n];
        int[] waits = new int[n];
        Arrays.fill(run.come, NONE);
        Arrays.fill(where, NONE);
        for (int minute = 0; minute < 100; minute++) {
            List<Integer> coming = new ArrayList<>();
            for (int l = 0; l < n; l++) if (start[l] < minute && where[l] == NONE && run.come[l] == NONE) coming.add(l);
            for (int l = 0; l < n; l++) if (start[l] == minute) coming.add(l);
            for (int l : coming) {
                Load load = at.loads.get(l);
                if ((home >> load.from & 1) != 0 || (home >> load.want & 1) != 0) continue;
                if (load.from == load.want) run.come[l] = minute;
                else if (canHold(load.from, l, where, porters)) where[l] = load.from;
            }
            long[] rank = new long[n];
            List<Integer> going = new ArrayList<>();
            for (int l = 0; l < n; l++) {
                if (where[l] == NONE) continue;
                going.add(l);
                Long told = told("first", ask(l, where[l], minute, waits[l], porters.get(where[l])));
                rank[l] = told == null ? 0 : told;
            }
            going.sort(Comparator.comparingLong((Integer l) -> -rank[l]).thenComparingInt(l -> l));
            for (int l : going) {
                int s = where[l];
                int t = next(s, home);
                boolean barred = told("bars", ask(l, s, minute, waits[l], porters.get(s))) != null;
                run.barred[l] = barred;
                if (!barred && t != NONE && t == at.loads.get(l).want) {
                    run.come[l] = minute;
                    where[l] = NONE;
                } else if (!barred && t != NONE && canHold(t, l, where, porters)) {
                    where[l] = t;
                    waits[l] = 0;
                    run.barred[l] = told("bars", ask(l, t, minute, 0, porters.get(t))) != null;
                } else {
                    waits[l]++;
                    run.waited[l]++;
                }
            }
            run.where[minute] = where.clone();
        }
        run.last = where;
        return run;
    }

    private boolean canHold(int s, int load, int[] where, List<Porter> porters) {
        int many = 0;
        int weight = at.loads.get(load).weight;
        for (int l = 0; l < where.length; l++) {
            if (where[l] == s) {
                many++;
                weight += at.loads.get(l).weight;
            }
        }
        return many < at.hands && weight <= porters.get(s).strength;
    }

    private int[] starts() {
        return at.loads.stream().mapToInt(Load::start).toArray();
    }

    private Run today() {
        return run(at.porters, starts(), 0);
    }

    int day(int load, int what) {
        if (!isLoad(load)) return NONE;
        Run run = today();
        if (what == 0) return run.come[load];
        if (what == 1) return run.come[load] == NONE ? NONE : Math.max(0, run.come[load] - at.noon);
        if (what == 2) return run.last[load];
        if (what == 3) return run.waited[load];
        return NONE;
    }

    int where(int load, int minute) {
        return isLoad(load) && in(minute, 0, 99) ? today().where[minute][load] : NONE;
    }

    int held(int stand, int minute, int what) {
        if (!isStand(stand) || !in(minute, 0, 99) || !in(what, 0, 1)) return NONE;
        int[] where = today().where[minute];
        int sum = 0;
        for (int l = 0; l < where.length; l++) {
            if (where[l] == stand) sum += what == 0 ? 1 : at.loads.get(l).weight;
        }
        return sum;
    }

    int choke() {
        Run run = today();
        boolean[] stuck = new boolean[12];
        for (int l = 0; l < at.loads.size(); l++) {
            int s = run.last[l];
            if (s == NONE || run.barred[l]) continue;
            int t = next(s, 0);
            if (t != NONE && t != at.loads.get(l).want && !canHold(t, l, run.last, at.porters)) stuck[s] = true;
        }
        for (int s = 0; s < at.left.size(); s++) {
            int bits = 0;
            int t = s;
            for (int i = 0; i < 12 && t != NONE && stuck[t]; i++) {
                bits |= 1 << t;
                t = next(t, 0);
                if (t == s) return bits;
            }
        }
        return 0;
    }

    private List<Porter> swapped(List<Porter> porters, int[] pair) {
        List<Porter> other = new ArrayList<>(porters);
        other.set(pair[0], porters.get(pair[1]));
        other.set(pair[1], porters.get(pair[0]));
        return other;
    }

    private boolean allCome(int loads, Run run, int last) {
        for (int l = 0; l < at.loads.size(); l++) {
            if ((loads >> l & 1) != 0 && (run.come[l] == NONE || run.come[l] > last)) return false;
        }
        return true;
    }

    int swaps(int loads, int what) {
        if (loads < 0 || loads >= 1 << at.loads.size() || !in(what, 0, 5)) return NONE;
        List<int[]> pairs = new ArrayList<>();
        for (int a = 0; a < at.left.size(); a++) for (int b = a + 1; b < at.left.size(); b++) pairs.add(new int[] {a, b});
        List<int[]> rows = new ArrayList<>();
        if (allCome(loads, today(), at.noon)) rows.add(new int[0]);
        if (rows.isEmpty()) {
            for (int[] p : pairs) {
                if (allCome(loads, run(swapped(at.porters, p), starts(), 0), at.noon)) rows.add(p);
            }
        }
        if (rows.isEmpty()) {
            for (int[] p : pairs) {
                for (int[] q : pairs) {
                    if (allCome(loads, run(swapped(swapped(at.porters, p), q), starts(), 0), at.noon)) {
                        rows.add(new int[] {p[0], p[1], q[0], q[1]});
                    }
                }
            }
        }
        if (what == 5) return rows.size();
        if (rows.isEmpty()) return NONE;
        int[] first = rows.get(0);
        return what == 0 ? first.length / 2 : what <= first.length ? first[what - 1] : NONE;
    }

    int swap(int one, int other) {
        if (!isStand(one) || !isStand(other)) return refuse(-2);
        if (one == other) return refuse(-3);
        at.porters = swapped(at.porters, new int[] {one, other});
        return yes(0);
    }

    int home(int what) {
        if (!in(what, 0, 2)) return NONE;
        for (int size = 0; size <= 3; size++) {
            List<Integer> sets = new ArrayList<>();
            for (int home = 0; home < 1 << at.left.size(); home++) {
                if (Integer.bitCount(home) != size) continue;
                boolean out = false;
                for (Load l : at.loads) out |= (home >> l.from & 1) != 0 || (home >> l.want & 1) != 0;
                if (!out && allCome((1 << at.loads.size()) - 1, run(at.porters, starts(), home), 99)) sets.add(home);
            }
            if (!sets.isEmpty()) return what == 0 ? size : what == 1 ? sets.get(0) : sets.size();
        }
        return what == 2 ? 0 : NONE;
    }

    // ---- fees

    private int gets(int load, int stand, List<Porter> porters) {
        Porter p = porters.get(stand);
        Long told = told("fee", ask(load, stand, 0, 0, p));
        return told == null ? p.fee : (int) Math.max(0, Math.min(999, told));
    }

    private int cost(int load, List<Porter> porters) {
        List<Integer> way = wayOf(load);
        if (way == null) return NONE;
        int sum = 0;
        for (int s : way.subList(0, way.size() - 1)) sum += gets(load, s, porters);
        return sum;
    }

    private boolean isSent(int load, List<Porter> porters) {
        int cost = cost(load, porters);
        return cost != NONE && cost <= at.loads.get(load).pay;
    }

    private int income(int stand, List<Porter> porters) {
        int sum = 0;
        for (int l = 0; l < at.loads.size(); l++) {
            if (!isSent(l, porters)) continue;
            List<Integer> way = wayOf(l);
            if (way.subList(0, way.size() - 1).contains(stand)) sum += gets(l, stand, porters);
        }
        return sum;
    }

    private List<Porter> asking(int stand, int fee, List<Porter> porters) {
        List<Porter> other = new ArrayList<>(porters);
        other.set(stand, new Porter(porters.get(stand).strength, fee));
        return other;
    }

    private int[] answer(int stand, List<Porter> porters) {
        int[] best = {0, -1};
        for (int fee = 0; fee <= 99; fee++) {
            int income = income(stand, asking(stand, fee, porters));
            if (income > best[1]) best = new int[] {fee, income};
        }
        return best;
    }

    int cost(int load) {
        return isLoad(load) ? cost(load, at.porters) : NONE;
    }

    int sent(int load) {
        return isLoad(load) ? isSent(load, at.porters) ? 1 : 0 : NONE;
    }

    int income(int stand) {
        return isStand(stand) ? income(stand, at.porters) : NONE;
    }

    int answer(int stand, int what) {
        return isStand(stand) && in(what, 0, 1) ? answer(stand, at.porters)[what] : NONE;
    }

    int restless() {
        for (int s = 0; s < at.left.size(); s++) {
            if (answer(s, at.porters)[1] > income(s, at.porters)) return s;
        }
        return NONE;
    }

    int rests(int what) {
        if (what != NONE && !isStand(what)) return NONE;
        List<Porter> porters = at.porters;
        int rounds = 51;
        for (int round = 1; round <= 50; round++) {
            boolean changed = false;
            for (int s = 0; s < at.left.size(); s++) {
                int[] answer = answer(s, porters);
                if (answer[1] > income(s, porters)) {
                    porters = asking(s, answer[0], porters);
                    changed = true;
                }
            }
            if (!changed) {
                rounds = round;
                break;
            }
        }
        return what == NONE ? rounds : porters.get(what).fee;
    }

    // ---- what is left

    int pieces(int load) {
        if (!isLoad(load)) return NONE;
        List<Integer> way = wayOf(load);
        if (way == null) return NONE;
        int hands = way.size() - 1;
        if (hands == 0) return 0;
        int least = way.subList(0, hands).stream().mapToInt(s -> at.porters.get(s).strength).min().getAsInt();
        int weight = at.loads.get(load).weight;
        return hands + (weight % least == 0 ? weight / least : weight / least + 1) - 1;
    }

    int sign(int stand, int hands) {
        if (!in(hands, 0, 99)) return refuse(-1);
        if (!isStand(stand)) return refuse(-2);
        if (at.signs.size() == 8) return refuse(-5);
        at.signs.add(new Sign(stand, hands));
        return yes(at.signs.size());
    }

    int clear() {
        int before = at.signs.size();
        at.signs.clear();
        return before;
    }

    private int after(int s, int hands) {
        for (int i = 0; i < hands && s != NONE; i++) s = next(s, 0);
        return s;
    }

    int thieves() {
        int bits = 0;
        for (int s = 0; s < at.left.size(); s++) {
            int from = s;
            if (at.signs.stream().allMatch(g -> after(from, g.hands) == g.stand)) bits |= 1 << s;
        }
        return bits;
    }

    int meet(int one, int other, int what) {
        if (!isStand(one) || !isStand(other) || !in(what, 0, 1)) return NONE;
        for (int hands = 0; hands < 1000; hands++) {
            int a = after(one, hands);
            if (a != NONE && a == after(other, hands)) return what == 0 ? hands : a;
        }
        return NONE;
    }

    int draw(int seed) {
        if (!in(seed, 0, 1_000_000)) return refuse(-1);
        long s = seed;
        drawnStarts = new int[at.loads.size()];
        for (int l = 0; l < drawnStarts.length; l++) {
            s = (s * 1103 + 12345) % 1_000_003;
            drawnStarts[l] = (int) (s % 30);
        }
        List<Porter> porters = new ArrayList<>();
        for (Porter p : at.porters) {
            s = (s * 1103 + 12345) % 1_000_003;
            porters.add(s % 3 == 0 ? new Porter(Math.max(1, p.strength - 1), p.fee) : p);
        }
        drawnRun = run(porters, drawnStarts, 0);
        return yes((int) Arrays.stream(drawnRun.come).filter(c -> c != NONE && c <= at.noon).count());
    }

    int drawn(int load, int what) {
        if (load < 0 || load >= drawnStarts.length || !in(what, 0, 1)) return NONE;
        return what == 0 ? drawnRun.come[load] : drawnStarts[load];
    }

    int image(int k) {
        if (!in(k, 0, 1)) return refuse(-1);
        images[k] = at.copy();
        return yes(0);
    }

    int back(int k) {
        if (!in(k, 0, 1)) return refuse(-1);
        if (images[k] == null) return refuse(-2);
        at = images[k].copy();
        return yes(0);
    }

    int count(int what) {
        switch (what) {
            case 0: return at.left.size();
            case 1: return at.loads.size();
            case 2: return at.laws.size();
            case 3: return at.signs.size();
            case 4: return (int) Arrays.stream(today().come).filter(c -> c != NONE && c <= at.noon).count();
            case 5: return (int) Arrays.stream(today().come).filter(c -> c == NONE).count();
            case 6: return tape.length;
            case 7: return refusals[1];
            case 8: return refusals[2];
            case 9: return refusals[3];
            case 10: return refusals[5];
            case 11: return refusals[6];
            case 12: return at.inForce;
            case 13: return at.noon;
            case 14: return at.hands;
            default: return NONE;
        }
    }

    int status() {
        return status;
    }
}
