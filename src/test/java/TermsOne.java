/** The document's Terms I, sentence by sentence: stands, loads, terms, what a call is refused by. */
final class TermsOne extends Checks {
    private TermsOne() { }

    static void ask() {
        stands();
        lefts();
        porters();
        loads();
        terms();
        refusals();
        orders();
        refusedCallsChangeNothing();
    }

    private static void stands() {
        says("STANDS 0 .. 11 (12 at most)");
        LeftHands x = new LeftHands();
        is(x.count(0), 0);
        noStand(new LeftHands(), 0);
        for (int s = 0; s < 12; s++) {
            is(x.count(0), s);
            is(x.of(s, 1), NONE);
            accepted(x, x.stand(NONE, 1 + s % 9, s), s);
            is(x.of(s, 2), s);
        }
        refused(x, x.stand(NONE, 1, 0), -5);
        is(x.count(0), 12);
        for (int s = 0; s < 12; s++) {
            is(x.of(s, 1), 1 + s % 9);
            is(x.of(s, 2), s);
        }
        is(x.swap(0, 11), 0);
        is(x.of(11, 2), 0);
        is(x.of(0, 2), 11);
        is(x.load(1, 11, 11, 0, 0, 0), 0);
        is(x.sign(11, 0), 1);
        is(x.thieves(), 1 << 11);
        for (int s : new int[] {Integer.MIN_VALUE, -2, -1, 12, 13, 65536, Integer.MAX_VALUE}) noStand(x, s);
        LeftHands one = row(5);
        is(one.put(0, 1, 6), 5);
        for (int s : new int[] {-2, -1, 1, 11, 256}) noStand(one, s);
    }

    /** What each call says of a number that is no stand's. */
    private static void noStand(LeftHands x, int s) {
        int signs = x.count(3);
        int loads = x.count(1);
        for (int what = 0; what < 4; what++) is(x.of(s, what), NONE);
        for (int what = 0; what < 3; what++) refused(x, x.put(s, what, 5), -2);
        refused(x, x.load(1, s, 0, 0, 0, 0), -2);
        refused(x, x.load(1, 0, s, 0, 0, 0), -2);
        is(x.enter(s, 0), NONE);
        is(x.held(s, 0, 0), NONE);
        is(x.held(s, 0, 1), NONE);
        refused(x, x.swap(s, 0), -2);
        refused(x, x.swap(0, s), -2);
        refused(x, x.swap(s, s), -2);
        is(x.income(s), NONE);
        is(x.answer(s, 0), NONE);
        is(x.answer(s, 1), NONE);
        if (s != NONE) is(x.rests(s), NONE);
        refused(x, x.sign(s, 0), -2);
        is(x.meet(s, 0, 0), NONE);
        is(x.meet(0, s, 0), NONE);
        is(x.meet(s, s, 0), NONE);
        is(x.meet(s, s, 1), NONE);
        is(x.count(3), signs);
        is(x.count(1), loads);
    }

    private static void lefts() {
        says("with a LEFT (a STAND, also itself or one that is not there yet; NONE: nobody)");
        takes(new LeftHands(), -1, 11, -1, (x, v) -> x.stand(v, 1, 0));
        takes(row(1, 1), -1, 11, -1, (x, v) -> x.put(1, 0, v));
        for (int left = -1; left < 12; left++) {
            LeftHands x = new LeftHands();
            accepted(x, x.stand(left, 1, 0), 0);
            is(x.of(0, 0), left);
            accepted(x, x.put(0, 0, 5), left);
            accepted(x, x.put(0, 0, left), 5);
            is(x.of(0, 0), left);
            // Only its own is there.
            is(x.of(0, 3), left == 0 ? 0 : NONE);
        }
    }

    private static void porters() {
        says("and a porter: STRENGTH 1 .. 9, FEE 0 .. 99.");
        takes(new LeftHands(), 1, 9, -1, (x, v) -> x.stand(0, v, 0));
        takes(new LeftHands(), 0, 99, -1, (x, v) -> x.stand(0, 1, v));
        takes(row(1, 1), 1, 9, -1, (x, v) -> x.put(0, 1, v));
        takes(row(1, 1), 0, 99, -1, (x, v) -> x.put(0, 2, v));
        LeftHands x = new LeftHands();
        x.stand(NONE, 1, 0);
        x.stand(NONE, 9, 99);
        is(x.of(0, 1), 1);
        is(x.of(0, 2), 0);
        is(x.of(1, 1), 9);
        is(x.of(1, 2), 99);
        accepted(x, x.put(0, 1, 9), 1);
        accepted(x, x.put(0, 2, 99), 0);
        accepted(x, x.put(0, 1, 1), 9);
        accepted(x, x.put(0, 2, 0), 99);
    }

    private static void loads() {
        says("LOADS 0 .. 7 (8 at most)");
        LeftHands x = row(9, 9);
        is(x.count(1), 0);
        noLoad(x, 0);
        for (int l = 0; l < 8; l++) accepted(x, x.load(1 + l, 0, 1, l, l, l), l);
        refused(x, x.load(1, 0, 1, 0, 0, 0), -5);
        is(x.count(1), 8);
        for (int l = 0; l < 8; l++) is(x.fact(l, 0), 1 + l);
        is(x.way(7, NONE), 1);
        is(x.day(7, 0), 7);
        is(x.swaps(255, 0), 0);
        is(x.swaps(256, 0), NONE);
        for (int l : new int[] {Integer.MIN_VALUE, -2, -1, 8, 9, 256, Integer.MAX_VALUE}) noLoad(x, l);
        is(x.count(1), 8);

        says(": WEIGHT 1 .. 9, ");
        takes(row(9, 9), 1, 9, -1, (y, v) -> y.load(v, 0, 1, 0, 0, 0));

        says("FROM and WANT (STANDS)");
        takes(row(9, 9, 9), 0, 2, -2, (y, v) -> y.load(1, v, 1, 0, 0, 0));
        takes(row(9, 9, 9), 0, 2, -2, (y, v) -> y.load(1, 1, v, 0, 0, 0));
        takes(row(1, 1, 1, 1, 1, 1, 1, 1, 1, 1, 1, 1), 0, 11, -2, (y, v) -> y.load(1, v, v, 0, 0, 0));

        says(", START 0 .. 99 (a minute), HASTE 0 .. 9, PAY 0 .. 9999.");
        takes(row(9, 9), 0, 99, -1, (y, v) -> y.load(1, 0, 1, v, 0, 0));
        takes(row(9, 9), 0, 9, -1, (y, v) -> y.load(1, 0, 1, 0, v, 0));
        takes(row(9, 9), 0, 9999, -1, (y, v) -> y.load(1, 0, 1, 0, 0, v));
        LeftHands z = row(9, 9);
        z.load(9, 1, 0, 99, 9, 9999);
        z.load(1, 0, 1, 0, 0, 0);
        int[] greatest = {9, 1, 0, 99, 9, 9999};
        int[] least = {1, 0, 1, 0, 0, 0};
        for (int k = 0; k < 6; k++) {
            is(z.fact(0, k), greatest[k]);
            is(z.fact(1, k), least[k]);
        }
    }

    /** What each call says of a number that is no load's. */
    private static void noLoad(LeftHands x, int l) {
        for (int what = 0; what < 6; what++) is(x.fact(l, what), NONE);
        refused(x, x.drop(l), -2);
        is(x.way(l, NONE), NONE);
        is(x.way(l, 0), NONE);
        for (int what = 0; what < 4; what++) is(x.day(l, what), NONE);
        is(x.where(l, 0), NONE);
        is(x.cost(l), NONE);
        is(x.sent(l), NONE);
        is(x.pieces(l), NONE);
        is(x.drawn(l, 0), NONE);
        is(x.drawn(l, 1), NONE);
    }

    private static void terms() {
        says("TERMS: 0 NOON 0 .. 99 (60 at first), 1 HANDS 1 .. 4 (2): how many LOADS a porter can hold.");
        LeftHands x = new LeftHands();
        is(x.count(13), 60);
        is(x.count(14), 2);
        takes(x, 0, 99, -1, (y, v) -> y.terms(0, v));
        takes(x, 1, 4, -1, (y, v) -> y.terms(1, v));
        takes(x, 0, 1, -1, (y, v) -> y.terms(v, 2));
        LeftHands z = new LeftHands();
        accepted(z, z.terms(0, 0), 60);
        accepted(z, z.terms(0, 99), 0);
        accepted(z, z.terms(1, 1), 2);
        accepted(z, z.terms(1, 4), 1);
        is(z.count(13), 99);
        is(z.count(14), 4);
        // NOON may be 0, HANDS may not; HANDS of 4 at most, NOON far beyond.
        refused(z, z.terms(1, 0), -1);
        accepted(z, z.terms(0, 5), 99);
        refused(z, z.terms(1, 5), -1);
        // He holds so many and no more.
        for (int hands = 1; hands <= 4; hands++) {
            LeftHands y = row(9);
            y.stand(NONE, 1, 0);
            for (int l = 0; l < 6; l++) y.load(1, 0, 1, 0, 0, 0);
            y.terms(1, hands);
            is(y.held(0, 0, 0), hands);
            is(y.held(0, 99, 0), hands);
            is(y.where(hands - 1, 99), 0);
            is(y.where(hands, 99), NONE);
        }
    }

    private static void refusals() {
        says("REFUSED by: -1 a number that can't be;");
        LeftHands x = row(9, 9);
        refused(x, x.stand(12, 1, 0), -1);
        refused(x, x.put(0, 3, 0), -1);
        refused(x, x.load(0, 0, 0, 0, 0, 0), -1);
        refused(x, x.terms(2, 0), -1);
        refused(x, x.sign(0, 100), -1);
        refused(x, x.draw(-1), -1);
        refused(x, x.image(2), -1);
        refused(x, x.back(2), -1);
        is(x.count(7), 8);

        says("-2 there is no such STAND, LOAD, LAW, SIGN, IMAGE;");
        refused(x, x.put(2, 0, 0), -2);
        refused(x, x.load(1, 0, 2, 0, 0, 0), -2);
        refused(x, x.swap(0, 2), -2);
        refused(x, x.sign(2, 0), -2);
        refused(x, x.drop(0), -2);
        refused(x, x.force(0), -2);
        refused(x, x.back(0), -2);
        refused(x, x.back(1), -2);
        is(x.count(8), 8);

        says("-3 it can't be by what stands;");
        refused(x, x.swap(1, 1), -3);
        is(x.count(9), 1);

        says("-5 no room;");
        for (int s = 2; s < 12; s++) x.stand(NONE, 1, 0);
        refused(x, x.stand(NONE, 1, 0), -5);
        for (int l = 0; l < 8; l++) x.load(1, 0, 1, 0, 0, 0);
        refused(x, x.load(1, 0, 1, 0, 0, 0), -5);
        for (int k = 0; k < 6; k++) law(x, "bars");
        refused(x, law(x, "bars"), -5);
        for (int k = 0; k < 8; k++) x.sign(0, 0);
        refused(x, x.sign(0, 0), -5);
        is(x.count(10), 4);

        says("-6 a TEXT, a ROW that can't be.");
        LeftHands y = new LeftHands();
        refused(y, y.law(), -6);
        refused(y, y.row(), -6);
        refused(y, law(y, "bar"), -6);
        is(y.count(11), 3);
        is(y.count(7) + y.count(8) + y.count(9) + y.count(10), 0);
    }

    private static void orders() {
        says("The first of these in that order.");
        LeftHands x = row(9, 9);
        refused(x, x.put(2, 0, 12), -1);
        refused(x, x.put(2, 1, 0), -1);
        refused(x, x.put(2, 2, 100), -1);
        refused(x, x.put(2, 3, 0), -1);
        refused(x, x.load(0, 2, 0, 0, 0, 0), -1);
        refused(x, x.load(1, 0, 2, 100, 0, 0), -1);
        refused(x, x.load(1, 2, 0, 0, 10, 0), -1);
        refused(x, x.load(1, 2, 2, 0, 0, 10000), -1);
        refused(x, x.sign(2, 100), -1);
        refused(x, x.sign(2, -1), -1);
        refused(x, x.swap(2, 2), -2);
        refused(x, x.back(-1), -1);
        for (int s = 2; s < 12; s++) x.stand(NONE, 1, 0);
        refused(x, x.stand(12, 1, 0), -1);
        refused(x, x.stand(0, 0, 0), -1);
        refused(x, x.stand(0, 1, 100), -1);
        for (int l = 0; l < 8; l++) x.load(1, 0, 1, 0, 0, 0);
        refused(x, x.load(1, 12, 0, 0, 0, 0), -2);
        refused(x, x.load(1, 0, 12, 0, 0, 0), -2);
        refused(x, x.load(1, 12, 0, 0, 0, -1), -1);
        refused(x, x.load(1, 0, 1, 0, 0, -1), -1);
        for (int k = 0; k < 8; k++) x.sign(0, 0);
        refused(x, x.sign(12, 0), -2);
        refused(x, x.sign(12, 100), -1);
        refused(x, x.sign(0, 100), -1);
        for (int k = 0; k < 6; k++) law(x, "bars");
        refused(x, law(x, "nonsense"), -5);
        refused(x, law(x, ""), -5);
    }

    private static LeftHands furnished() {
        LeftHands x = ring(3, 4, 5);
        x.load(2, 0, 2, 1, 3, 40);
        x.load(3, 1, 0, 0, 4, 50);
        lawInForce(x, "fee 3;bars if minute<2");
        x.terms(0, 40);
        x.sign(1, 2);
        x.draw(7);
        law(x, "bars if");
        return x;
    }

    private static LeftHands full() {
        LeftHands x = furnished();
        for (int s = 3; s < 12; s++) x.stand(0, 1, 0);
        for (int l = 2; l < 8; l++) x.load(1, 0, 2, 0, 0, 0);
        for (int k = 1; k < 6; k++) law(x, "bars");
        for (int k = 1; k < 8; k++) x.sign(0, 2);
        return x;
    }

    private static void refusedCallsChangeNothing() {
        says("The first of these in that order.");
        Call[] badNumbers = {x -> x.stand(0, 10, 0), x -> x.put(0, 2, 100), x -> x.load(10, 0, 1, 0, 0, 0), x -> x.terms(0, 100),
            x -> x.terms(1, 0), x -> x.sign(0, 100), x -> x.draw(1000001), x -> x.image(2), x -> x.back(2)};
        Call[] noSuch = {x -> x.put(3, 2, 5), x -> x.load(1, 0, 3, 0, 0, 0), x -> x.drop(2), x -> x.force(1), x -> x.swap(0, 3),
            x -> x.sign(3, 0), x -> x.back(0)};
        Call[] noRoom = {x -> x.stand(0, 1, 0), x -> x.load(1, 0, 1, 0, 0, 0), x -> x.sign(0, 0), LeftHands::law};
        for (Call call : badNumbers) refusedAlone(furnished(), call, -1);
        for (Call call : noSuch) refusedAlone(furnished(), call, -2);
        refusedAlone(furnished(), x -> x.swap(1, 1), -3);
        for (Call call : noRoom) refusedAlone(full(), call, -5);
        refusedAlone(furnished(), LeftHands::row, -6);
    }
}
