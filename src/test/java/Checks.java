import java.util.LinkedHashSet;
import java.util.Set;

/** What the tests by hand share: what is asked, what is due, and objects to ask. */
abstract class Checks {
    static final int NONE = LeftHands.NONE;
    /** What the document says, to the letter, as the tests quoted it so far. */
    static final Set<String> QUOTES = new LinkedHashSet<>();

    private static String about = "";
    private static int asked = 0;
    private static int wrong = 0;

    static void about(String what) {
        about = what;
    }

    static void promise(int number) {
        about("promise " + number);
    }

    /** The sentence of the document that the answers behind it must hold to. */
    static void says(String sentence) {
        about("\"" + sentence + "\"");
        QUOTES.add(sentence);
    }

    static void is(int got, int want) {
        asked++;
        if (got != want) fault("answered " + got + ", due is " + want);
    }

    /** A call that is refused: its answer, and status() behind it. */
    static void refused(LeftHands x, int got, int why) {
        asked++;
        if (got != why || x.status() != why) fault("answered " + got + ", status " + x.status() + ", due is " + why);
    }

    /** A call that is not refused, whatever it answers. */
    static void accepted(LeftHands x, int got, int want) {
        is(got, want);
        is(x.status(), 0);
    }

    static void same(String got, String want) {
        asked++;
        if (!got.equals(want)) fault("answered " + got + ", due is " + want);
    }

    static void fault(String what) {
        wrong++;
        System.out.println(about + place() + ": " + what);
    }

    private static String place() {
        StringBuilder lines = new StringBuilder();
        for (StackTraceElement e : new Throwable().getStackTrace()) {
            String in = e.getClassName();
            if (!in.equals("Checks") && !e.getMethodName().equals("main")) {
                lines.append(", ").append(in).append(' ').append(e.getLineNumber());
            }
        }
        return lines.toString();
    }

    static void end() {
        System.out.println(asked + " answers, " + wrong + " wrong");
        if (wrong > 0) System.exit(1);
    }

    static void put(LeftHands x, int... bytes) {
        Feeder.put(new Feeder.Tape() {
            public int feed(int a, int b, int c, int d, int e) {
                return x.feed(a, b, c, d, e);
            }

            public int end(int n) {
                return x.end(n);
            }
        }, x.count(6), bytes);
    }

    static int law(LeftHands x, String text) {
        put(x, Feeder.bytesOf(text));
        return x.law();
    }

    static void lawInForce(LeftHands x, String text) {
        x.force(law(x, text));
    }

    static int faultOf(String text) {
        LeftHands x = new LeftHands();
        law(x, text);
        return x.fault();
    }

    /** A ring of stands, each with the next number at its left, the last with 0; fees 1, 2, 3 .. */
    static LeftHands ring(int... strengths) {
        LeftHands x = new LeftHands();
        for (int i = 0; i < strengths.length; i++) x.stand((i + 1) % strengths.length, strengths[i], i + 1);
        return x;
    }

    /** A row of stands, each with the next number at its left, the last with nobody; no fees. */
    static LeftHands row(int... strengths) {
        LeftHands x = new LeftHands();
        for (int i = 0; i < strengths.length; i++) x.stand(i + 1 < strengths.length ? i + 1 : NONE, strengths[i], 0);
        return x;
    }

    static LeftHands ringWithLaw(String text, int... strengths) {
        LeftHands x = ring(strengths);
        is(law(x, text), 0);
        is(x.force(0), NONE);
        return x;
    }

    /** All that an object tells of what it keeps, the refusals left aside; some 150 calls. */
    static String all(LeftHands x) {
        StringBuilder told = new StringBuilder();
        int[] counts = {0, 1, 2, 3, 4, 5, 6, 12, 13, 14};
        for (int what : counts) told.append(x.count(what)).append(' ');
        for (int s = 0; s < x.count(0); s++) {
            for (int what = 0; what < 4; what++) told.append(x.of(s, what)).append(' ');
        }
        for (int l = 0; l < x.count(1); l++) {
            for (int what = 0; what < 6; what++) told.append(x.fact(l, what)).append(' ');
            told.append(x.drawn(l, 0)).append(' ').append(x.drawn(l, 1)).append(' ');
        }
        told.append(x.thieves()).append(' ').append(x.fault()).append(' ').append(x.dropped());
        return told.toString();
    }

    interface Call {
        int on(LeftHands x);
    }

    interface CallWith {
        int on(LeftHands x, int value);
    }

    /** A call that is refused changes nothing but status() and the one count of such refusals. */
    static void refusedAlone(LeftHands x, Call call, int why) {
        String before = all(x);
        int[] counts = new int[5];
        for (int k = 0; k < 5; k++) counts[k] = x.count(7 + k);
        refused(x, call.on(x), why);
        same(all(x), before);
        for (int k = 0; k < 5; k++) is(x.count(7 + k), counts[k] + (why == new int[] {-1, -2, -3, -5, -6}[k] ? 1 : 0));
    }

    /** Which numbers a call takes: those from low to high; the others are refused by a code. */
    static void takes(LeftHands made, int low, int high, int why, CallWith call) {
        made.image(0);
        for (int value : around(low, high)) {
            made.back(0);
            int got = call.on(made, value);
            if (value >= low && value <= high) is(made.status(), 0);
            else refused(made, got, why);
        }
    }

    /** For which numbers a call tells something: those from low to high; NONE for the others. */
    static void tells(LeftHands x, int low, int high, CallWith call) {
        for (int value : around(low, high)) {
            int got = call.on(x, value);
            boolean told = value >= low && value <= high;
            if (told == (got == NONE)) fault("answered " + got + " for " + value);
        }
    }

    private static int[] around(int low, int high) {
        return new int[] {Integer.MIN_VALUE, low - 65536, low - 256, low - 2, low - 1, low, low + 1, (low + high) / 2,
            high - 1, high, high + 1, high + 2, high + 256, high + 65536, Integer.MAX_VALUE};
    }

    /** What one law makes of the cost of load 0, from 0 to 1, its porter asking 7 and of strength 4. */
    static int costBy(String text) {
        LeftHands x = new LeftHands();
        x.stand(1, 4, 7);
        x.stand(NONE, 5, 8);
        x.load(3, 0, 1, 9, 6, 50);
        if (law(x, text) != 0) return -99;
        x.force(0);
        return x.cost(0);
    }
}
