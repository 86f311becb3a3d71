import java.util.function.ToIntFunction;

/** Runs of calls drawn from a fixed row of numbers, on LeftHands and on the Model at once. */
public final class ModelTest {
    private static final int RUNS = 120;
    private static final int CALLS = 220;

    private long drawn;
    private int wrong;
    private int asked;
    private LeftHands one;
    private Model other;
    private int run;
    private int stands;
    private int most;
    private boolean ringed;
    private boolean tight;
    private StringBuilder told;

    public static void main(String[] args) {
        ModelTest test = new ModelTest();
        int runs = args.length > 0 ? Integer.parseInt(args[0]) : RUNS;
        int first = args.length > 1 ? Integer.parseInt(args[1]) : 0;
        for (int i = first; i < first + runs && test.wrong < 5; i++) {
            test.run(i);
            test.runSearches(i);
            test.runJams(i);
        }
        System.out.println(test.asked + " answers held against the model, " + test.wrong + " wrong");
        if (test.wrong > 0) System.exit(1);
    }

    private int draw(int n) {
        drawn = drawn * 6364136223846793005L + 1442695040888963407L;
        return (int) ((drawn >>> 33) % n);
    }

    private int draw(int low, int high) {
        return low + draw(high - low + 1);
    }

    /** Small bazaars in which a swap or a porter sent home often helps, and all searches on them. */
    private void runSearches(int number) {
        run = number;
        drawn = number * 104729L + 5;
        one = new LeftHands();
        other = new Model();
        told = new StringBuilder("# searches\n");
        most = draw(3, 6);
        ringed = true;
        tight = true;
        stands = 0;
        for (int i = 0; i < most; i++) stand();
        for (int i = draw(1, 4); i > 0; i--) load();
        if (draw(3) == 0) {
            law();
            force();
        }
        int noon = draw(2, 9);
        same("terms(0, " + noon + ")", x -> x.terms(0, noon), x -> x.terms(0, noon));
        for (int i = 0; i < 8; i++) {
            int loads = draw(1 << other.count(1));
            for (int k = 0; k < 6; k++) {
                int what = k;
                same("swaps(" + loads + ", " + what + ")", x -> x.swaps(loads, what), x -> x.swaps(loads, what));
                same("home(" + what + ")", x -> x.home(what), x -> x.home(what));
            }
            same("choke()", LeftHands::choke, Model::choke);
            same("rests(-1)", x -> x.rests(-1), x -> x.rests(-1));
            change(draw(10));
        }
    }

    /** Rings full of loads that are wanted elsewhere, under laws that bar some of them, some of the time. */
    private void runJams(int number) {
        run = number;
        drawn = number * 15485863L + 3;
        one = new LeftHands();
        other = new Model();
        told = new StringBuilder("# jams\n");
        most = draw(1, 4);
        ringed = true;
        tight = true;
        stands = 0;
        while (stands < most) stand();
        int elsewhere = most;
        same("stand(0, 1, 0)", x -> x.stand(0, 1, 0), x -> x.stand(0, 1, 0));
        for (int i = draw(2, 8); i > 0; i--) {
            int weight = draw(1, 2);
            int from = draw(most);
            int start = draw(3) == 0 ? draw(96, 99) : 0;
            same("load(" + weight + ", " + from + ", " + elsewhere + ", " + start + ", 0, 0)",
                x -> x.load(weight, from, elsewhere, start, 0, 0), x -> x.load(weight, from, elsewhere, start, 0, 0));
        }
        for (int k = 0; k < 6; k++) {
            lawOf("bars if " + jamTest() + (draw(2) == 0 ? " or " : " and ") + jamTest());
            int law = k;
            same("force(" + law + ")", x -> x.force(law), x -> x.force(law));
            same("choke()", LeftHands::choke, Model::choke);
        }
    }

    private String jamTest() {
        String turned = draw(3) == 0 ? "not " : "";
        switch (draw(5)) {
            case 0: return turned + "minute" + "<>=".charAt(draw(3)) + draw(97, 100);
            case 1: return turned + "waits" + "<>=".charAt(draw(3)) + (draw(2) == 0 ? draw(0, 3) : draw(96, 100));
            case 2: return turned + "[minute+waits]/2*2=minute+waits";
            case 3: return turned + "stand=" + draw(most);
            default: return turned + "load" + "<>=".charAt(draw(3)) + draw(8);
        }
    }

    private void run(int number) {
        run = number;
        drawn = number * 7919L + 17;
        draw(2);
        one = new LeftHands();
        other = new Model();
        told = new StringBuilder();
        most = draw(8) == 0 ? 12 : draw(1, 6);
        ringed = draw(3) > 0;
        tight = draw(2) == 0;
        stands = 0;
        for (int i = 0; i < most; i++) stand();
        for (int i = draw(5); i > 0; i--) load();
        if (draw(3) == 0) {
            law();
            force();
        }
        int wrongBefore = wrong;
        for (int i = 0; i < CALLS && wrong == wrongBefore; i++) {
            call();
            same("status()", LeftHands::status, Model::status);
        }
    }

    private void same(String call, ToIntFunction<LeftHands> mine, ToIntFunction<Model> due) {
        told.append(call).append('\n');
        int got = mine.applyAsInt(one);
        int want = due.applyAsInt(other);
        asked++;
        if (got != want) {
            wrong++;
            System.out.println("run " + run + ": " + call + " answered " + got + ", the model " + want);
            if (wrong == 1) System.out.println(told);
        }
    }

    private int someStand() {
        return draw(12) == 0 ? draw(-2, 13) : draw(Math.max(1, stands));
    }

    private int someLoad() {
        return draw(10) == 0 ? draw(-2, 9) : draw(Math.max(1, other.count(1)));
    }

    private int near(int low, int high) {
        int n = draw(40);
        return n == 0 ? low - 1 : n == 1 ? high + 1 : n == 2 ? low : n == 3 ? high : draw(low, high);
    }

    private void stand() {
        int left = draw(5) == 0 ? near(-1, 11) : draw(-1, Math.max(1, most - 1));
        if (ringed && draw(30) > 0) left = (stands + 1) % most;
        int strength = tight ? draw(1, 3) : near(1, 9);
        int fee = near(0, draw(2) == 0 ? 99 : 9);
        int l = left;
        same("stand(" + l + ", " + strength + ", " + fee + ")", x -> x.stand(l, strength, fee), x -> x.stand(l, strength, fee));
        stands = other.count(0);
    }

    private void load() {
        int weight = draw(4) == 0 ? near(1, 9) : draw(1, 3);
        int from = someStand();
        int want = someStand();
        int start = draw(3) == 0 ? near(0, 99) : draw(0, 4);
        int haste = near(0, 9);
        int pay = draw(4) == 0 ? near(0, 9999) : draw(0, 150);
        same("load(" + weight + ", " + from + ", " + want + ", " + start + ", " + haste + ", " + pay + ")",
            x -> x.load(weight, from, want, start, haste, pay), x -> x.load(weight, from, want, start, haste, pay));
    }

    private void tape(int... bytes) {
        int before = other.count(6);
        Feeder.put(new Feeder.Tape() {
            public int feed(int a, int b, int c, int d, int e) {
                same("feed(" + a + ", " + b + ", " + c + ", " + d + ", " + e + ")", x -> x.feed(a, b, c, d, e), x -> x.feed(a, b, c, d, e));
                return 0;
            }

            public int end(int n) {
                same("end(" + n + ")", x -> x.end(n), x -> x.end(n));
                return 0;
            }
        }, before, bytes);
    }

    private void law() {
        String text = lawText();
        if (draw(6) == 0 && text.length() > 1) {
            int i = draw(text.length());
            text = text.substring(0, i) + new String[] {"", "(", "]", " or ", "9", ";", "<", "x", "\u00e9", " "}[draw(10)] + text.substring(i + draw(2));
        }
        lawOf(text.length() > 400 ? text.substring(0, 400) : text);
    }

    private void lawOf(String text) {
        told.append("# ").append(text).append('\n');
        tape(Feeder.bytesOf(text));
        same("law()", LeftHands::law, Model::law);
        same("fault()", LeftHands::fault, Model::fault);
    }

    private void force() {
        int law = draw(3) == 0 ? draw(-2, 6) : draw(other.count(2) + 1) - 1;
        same("force(" + law + ")", x -> x.force(law), x -> x.force(law));
    }

    private void row() {
        int[] bytes = new int[draw(0, 26)];
        for (int i = 0; i < bytes.length; i++) {
            int k = i % 6;
            bytes[i] = k == 0 ? near(1, 9) : k <= 2 ? someStand() : k == 3 ? draw(0, 8) : k == 4 ? near(0, 9) : draw(256);
        }
        tape(bytes);
        same("row()", LeftHands::row, Model::row);
        same("dropped()", LeftHands::dropped, Model::dropped);
    }

    // ---- texts of laws

    private String blank() {
        return draw(4) == 0 ? " " : "";
    }

    private String lawText() {
        StringBuilder law = new StringBuilder();
        int clauses = draw(12) == 0 ? draw(10, 14) : draw(1, 4);
        for (int i = 0; i < clauses; i++) {
            if (i > 0) law.append(blank()).append(';').append(blank());
            int head = draw(3);
            law.append(new String[] {"first ", "fee ", "bars "}[head]);
            if (head < 2) law.append(sumText(clauses > 9 ? 0 : 3));
            if (head == 2 ? draw(8) > 0 : draw(2) == 0) law.append(" if ").append(testText(clauses > 9 ? 0 : 3));
        }
        return law.toString();
    }

    private String sumText(int deep) {
        int kind = draw(deep <= 0 ? 3 : 8);
        if (kind < 2) return new String[] {"load", "weight", "haste", "stand", "left", "minute", "waits", "strength", "asks"}[draw(9)];
        if (kind == 2) return String.valueOf(draw(40) == 0 ? draw(999, 1001) : draw(5) == 0 ? draw(0, 1000) : draw(0, 9));
        if (kind == 3) return "[" + blank() + sumText(deep - 1) + blank() + "]";
        return sumText(deep - 1) + blank() + "+-*/".charAt(draw(4)) + blank() + sumText(deep - 1);
    }

    private String testText(int deep) {
        int kind = draw(deep <= 0 ? 2 : 6);
        if (kind < 3) return sumText(deep - 2) + blank() + "<>=".charAt(draw(3)) + blank() + sumText(deep - 2);
        if (kind == 3) return "not " + testText(deep - 1);
        if (kind == 4) return "(" + testText(deep - 1) + ")" + blank();
        return testText(deep - 1) + (draw(2) == 0 ? " and " : " or ") + testText(deep - 1);
    }

    // ---- calls

    private void call() {
        int kind = draw(100);
        if (kind < 15) change(draw(14));
        else if (kind < 85) askOfDay(draw(20));
        else askElse(draw(12));
    }

    private void change(int kind) {
        int a = someStand();
        int b = someStand();
        int k = draw(10) == 0 ? draw(-1, 2) : draw(2);
        switch (kind) {
            case 0: if (draw(3) == 0) stand(); else load(); break;
            case 1: {
                int what = ringed && draw(4) > 0 ? draw(1, 2) : near(0, 2);
                int value = what == 0 ? draw(6) == 0 ? near(-1, 11) : draw(-1, Math.max(0, stands - 1)) : what == 1 ? draw(2) == 0 ? draw(1, 3) : near(1, 9) : near(0, 99);
                same("put(" + a + ", " + what + ", " + value + ")", x -> x.put(a, what, value), x -> x.put(a, what, value));
                break;
            }
            case 2: load(); break;
            case 3: {
                int l = someLoad();
                same("drop(" + l + ")", x -> x.drop(l), x -> x.drop(l));
                break;
            }
            case 4: {
                int what = draw(10) == 0 ? draw(-1, 2) : draw(2);
                int value = what == 0 ? draw(2) == 0 ? near(0, 99) : draw(0, 9) : near(1, 4);
                same("terms(" + what + ", " + value + ")", x -> x.terms(what, value), x -> x.terms(what, value));
                break;
            }
            case 5: row(); break;
            case 6: law(); break;
            case 7: case 8: force(); break;
            case 9: same("swap(" + a + ", " + b + ")", x -> x.swap(a, b), x -> x.swap(a, b)); break;
            case 10: {
                int hands = draw(2) == 0 ? near(0, 99) : draw(0, 4);
                same("sign(" + a + ", " + hands + ")", x -> x.sign(a, hands), x -> x.sign(a, hands));
                break;
            }
            case 11: same("image(" + k + ")", x -> x.image(k), x -> x.image(k)); break;
            case 12:
                same("back(" + k + ")", x -> x.back(k), x -> x.back(k));
                stands = other.count(0);
                break;
            default: if (draw(3) == 0) same("clear()", LeftHands::clear, Model::clear); break;
        }
    }

    private void askOfDay(int kind) {
        int l = someLoad();
        int s = someStand();
        int t = someStand();
        int what = draw(-1, 6);
        int minute = draw(3) == 0 ? near(0, 99) : draw(0, 12);
        int loads = draw(12) == 0 ? draw(-1, 256) : draw(1 << other.count(1));
        switch (kind) {
            case 0: case 1: case 2: same("day(" + l + ", " + what + ")", x -> x.day(l, what), x -> x.day(l, what)); break;
            case 3: same("where(" + l + ", " + minute + ")", x -> x.where(l, minute), x -> x.where(l, minute)); break;
            case 4: same("held(" + s + ", " + minute + ", " + draw(1) + ")", x -> x.held(s, minute, what), x -> x.held(s, minute, what)); break;
            case 5: case 6: same("choke()", LeftHands::choke, Model::choke); break;
            case 7:
                if (stands <= 5 || draw(60) == 0) same("swaps(" + loads + ", " + what + ")", x -> x.swaps(loads, what), x -> x.swaps(loads, what));
                break;
            case 8: if (stands <= 7 || draw(20) == 0) same("home(" + what + ")", x -> x.home(what), x -> x.home(what)); break;
            case 9: same("cost(" + l + ")", x -> x.cost(l), x -> x.cost(l)); break;
            case 10: same("sent(" + l + ")", x -> x.sent(l), x -> x.sent(l)); break;
            case 11: same("income(" + s + ")", x -> x.income(s), x -> x.income(s)); break;
            case 12: same("answer(" + s + ", " + what + ")", x -> x.answer(s, what), x -> x.answer(s, what)); break;
            case 13: if (draw(3) == 0) same("restless()", LeftHands::restless, Model::restless); break;
            case 14: {
                int of = draw(2) == 0 ? -1 : s;
                if (draw(6) == 0) same("rests(" + of + ")", x -> x.rests(of), x -> x.rests(of));
                break;
            }
            case 15: same("way(" + l + ", " + what + ")", x -> x.way(l, what), x -> x.way(l, what)); break;
            case 19:
                if (stands <= 5) same("swaps(1, " + what + ")", x -> x.swaps(1, what), x -> x.swaps(1, what));
                break;
            case 16: same("pieces(" + l + ")", x -> x.pieces(l), x -> x.pieces(l)); break;
            case 17: same("meet(" + s + ", " + t + ", " + what + ")", x -> x.meet(s, t, what), x -> x.meet(s, t, what)); break;
            default: {
                int without = draw(8) == 0 ? draw(-1, 4100) : draw(1 << stands);
                same("enter(" + s + ", " + without + ")", x -> x.enter(s, without), x -> x.enter(s, without));
                break;
            }
        }
    }

    private void askElse(int kind) {
        int l = someLoad();
        int s = someStand();
        int what = draw(-1, 6);
        switch (kind) {
            case 0: case 1: {
                int k = draw(-1, 15);
                same("count(" + k + ")", x -> x.count(k), x -> x.count(k));
                break;
            }
            case 2: same("thieves()", LeftHands::thieves, Model::thieves); break;
            case 3: {
                int seed = draw(10) == 0 ? new int[] {-1, 0, 1000000, 1000001}[draw(4)] : draw(1000000);
                same("draw(" + seed + ")", x -> x.draw(seed), x -> x.draw(seed));
                break;
            }
            case 4: case 5: {
                int which = draw(2);
                same("drawn(" + l + ", " + which + ")", x -> x.drawn(l, which), x -> x.drawn(l, which));
                break;
            }
            case 6: same("of(" + s + ", " + what + ")", x -> x.of(s, what), x -> x.of(s, what)); break;
            case 7: same("fact(" + l + ", " + what + ")", x -> x.fact(l, what), x -> x.fact(l, what)); break;
            case 8: same("fault()", LeftHands::fault, Model::fault); break;
            case 9: same("dropped()", LeftHands::dropped, Model::dropped); break;
            case 10: {
                int n = draw(-1, 30);
                same("end(" + n + ")", x -> x.end(n), x -> x.end(n));
                break;
            }
            default:
                if (draw(10) == 0) same("feed", x -> x.feed(1, 2, 3, 4, 5), x -> x.feed(1, 2, 3, 4, 5));
                break;
        }
    }
}
