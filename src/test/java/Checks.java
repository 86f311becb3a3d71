import java.util.LinkedHashSet;
import java.util.Set;

/** What the tests by hand share: what is asked, what is due, and objects to ask. */
abstract class Checks {
    static final int NONE = LeftHands.NONE;
    /** What the document says, to the letter, as the tests quoted it so far. */
    static final Set<String> QUOTES = new LinkedHashSet<>();

    private static String about = "";
    private static int asked = 0;
    private static int wrong = 0;

    static void promise(int number) {
        about = "promise " + number;
    }

    /** The sentence of the document that the answers behind it must hold to. */
    static void says(String sentence) {
        about = "\"" + sentence + "\"";
        QUOTES.add(sentence);
    }

    static void is(int got, int want) {
        asked++;
        if (got != want) fault("answered " + got + ", due is " + want);
    }

    /** A call that is refused: its answer, and status() behind it. */
    static void refused(LeftHands x, int got, int why) {
        asked++;
        if (got != why || x.status() != why) fault("answered " + got + ", status " + x.status() + ", due is " + why);
    }

    /** A call that is not refused, whatever it answers. */
    static void accepted(LeftHands x, int got, int want) {
        is(got, want);
        is(x.status(), 0);
    }

    static void same(String got, String want) {
        asked++;
        if (!got.equals(want)) fault("answered " + got + ", due is " + want);
    }

    static void fault(String what) {
        wrong++;
        System.out.println(about + place() + ": " + what);
    }

    private static String place() {
        StringBuilder lines = new StringBuilder();
        for (StackTraceElement e : new Throwable().getStackTrace()) {
            String in = e.getClassName();
            if (!in.equals("Checks") && !e.getMethodName().equals("main")) {
                lines.append(", ").append(in).append(' ').append(e.getLineNumber());
            }
        }
        return lines.toString();
    }

    static void end() {
        System.out.println(asked + " answers, " + wrong + " wrong");
        if (wrong > 0) System.exit(1);
    }

    static void put(LeftHands x, int... bytes) {
        Feeder.put(new Feeder.Tape() {
            public int feed(int a, int b, int c, int d, int e) {
                return x.feed(a, b, c, d, e);
            }

            public int end(int n) {
                return x.end(n);
            }
        }, x.count(6), bytes);
    }

    static int law(LeftHands x, String text) {
        put(x, Feeder.bytesOf(text));
        return x.law();
    }

    static void lawInForce(LeftHands x, String text) {
        x.force(law(x, text));
    }

    static int faultOf(String text) {
        LeftHands x = new LeftHands();
        law(x, text);
        return x.fault();
    }

    /** A ring of stands, each with the next number at its left, the last with 0; fees 1, 2, 3 .. */
    static LeftHands ring(int... strengths) {
        LeftHands x = new LeftHands();
        for (int i = 0; i < strengths.length; i++) x.stand((i + 1) % strengths.length, strengths[i], i + 1);
        return x;
    }

    /** A row of stands, each with the next number at its left, the last with nobody; no fees. */
    static LeftHands row(int... strengths) {
        LeftHands x = new LeftHands();
        for (int i = 0; i < strengths.length; i++) x.stand(i + 1 < strengths.length ? i + 1 : NONE, strengths[i], 0);
        return x;
    }

    static LeftHands ringWithLaw(String text, int... strengths) {
        LeftHands x = ring(strengths);
        is(law(x, text), 0);
        is(x.force(0), NONE);
        return x;
    }

    /** What one law makes of the cost of load 0, from 0 to 1, its porter asking 7 and of strength 4. */
    static int costBy(String text) {
        LeftHands x = new LeftHands();
        x.stand(1, 4, 7);
        x.stand(NONE, 5, 8);
        x.load(3, 0, 1, 9, 6, 50);
        if (law(x, text) != 0) return -99;
        x.force(0);
        return x.cost(0);
    }
}
