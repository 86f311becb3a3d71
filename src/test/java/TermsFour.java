/** The document's Terms IV, sentence by sentence: fees, pieces, signs, drawn days, rows, images. */
final class TermsFour extends Checks {
    private TermsFour() { }

    static void ask() {
        cost();
        sent();
        income();
        answer();
        rest();
        rounds();
        pieces();
        signs();
        drawnDay();
        drawnStrength();
        rows();
        images();
        imagesStay();
    }

    private static void cost() {
        says("COST of a LOAD: what all on its WAY get, minute 0, waits 0 (who hands it to WANT, too).");
        LeftHands x = ring(9, 9, 9, 9);
        x.load(1, 0, 1, 0, 0, 0);
        x.load(1, 0, 3, 50, 0, 0);
        x.load(1, 3, 0, 99, 0, 0);
        x.load(1, 2, 2, 0, 0, 0);
        is(x.cost(0), 1);
        is(x.cost(1), 1 + 2 + 3);
        is(x.cost(2), 4);
        is(x.cost(3), 0);
        lawInForce(x, "fee minute+waits");
        for (int l = 0; l < 4; l++) is(x.cost(l), 0);
        lawInForce(x, "fee 900 if minute>0 or waits>0;fee 7/[1-minute-waits]");
        is(x.cost(1), 21);
        // What strength, places and days do is no matter.
        lawInForce(x, "bars;fee asks*10");
        x.terms(1, 1);
        x.load(9, 0, 3, 99, 0, 0);
        x.put(1, 1, 1);
        is(x.cost(4), 60);
        x.put(1, 0, NONE);
        is(x.cost(0), 10);
        is(x.cost(1), NONE);
        is(x.cost(4), NONE);
        is(x.cost(3), 0);
    }

    private static void sent() {
        says("It is SENT, if it has a WAY and its COST is at most PAY.");
        int[] pay = {29, 30, 31, 0, 9999};
        for (int p : pay) {
            LeftHands x = row(9, 9, 9, 9);
            x.put(0, 2, 10);
            x.put(1, 2, 20);
            x.load(1, 0, 2, 0, 0, p);
            x.load(1, 2, 3, 0, 0, p);
            x.load(1, 2, 0, 0, 0, p);
            x.load(1, 0, 0, 0, 0, p);
            is(x.sent(0), p < 30 ? 0 : 1);
            is(x.sent(1), 1);
            is(x.sent(2), 0);
            is(x.sent(3), 1);
        }
        // 10 hands of 999 are 9,990, 11 are more than any PAY.
        LeftHands y = row(9, 9, 9, 9, 9, 9, 9, 9, 9, 9, 9, 9);
        y.load(1, 1, 11, 0, 0, 9990);
        y.load(1, 1, 11, 0, 0, 9989);
        y.load(1, 0, 11, 0, 0, 9999);
        lawInForce(y, "fee 1000");
        is(y.cost(0), 9990);
        is(y.sent(0), 1);
        is(y.sent(1), 0);
        is(y.cost(2), 10989);
        is(y.sent(2), 0);
        is(y.income(1), 999);
        is(y.income(0), 0);
    }

    private static void income() {
        says("A porter's INCOME: what he gets of all LOADS that are SENT.");
        LeftHands x = row(9, 9, 9);
        x.put(0, 2, 10);
        x.put(1, 2, 20);
        x.put(2, 2, 40);
        for (int s = 0; s < 3; s++) is(x.income(s), 0);
        x.load(1, 0, 2, 0, 0, 30);
        is(x.income(0), 10);
        is(x.income(1), 20);
        is(x.income(2), 0);
        x.load(1, 0, 2, 0, 0, 29);
        x.load(1, 1, 2, 0, 0, 20);
        x.load(1, 1, 2, 0, 0, 19);
        x.load(1, 2, 0, 0, 0, 9999);
        x.load(1, 2, 2, 0, 0, 9999);
        is(x.income(0), 10);
        is(x.income(1), 40);
        is(x.income(2), 0);
        lawInForce(x, "bars;fee asks-load*15");
        is(x.income(0), 10);
        is(x.income(1), 20 + 5);
        is(x.sent(1), 1);
    }

    private static LeftHands paying(int... pays) {
        LeftHands x = row(9, 9, 9);
        x.put(0, 2, 5);
        for (int pay : pays) x.load(1, 0, 1, 0, 0, pay);
        return x;
    }

    private static void answerIs(LeftHands x, int fee, int income) {
        is(x.answer(0, 0), fee);
        is(x.answer(0, 1), income);
    }

    private static void answer() {
        says("ANSWER of a porter: the FEE 0 .. 99 by which his INCOME is greatest, all others as they are; the lowest.");
        answerIs(paying(), 0, 0);
        answerIs(paying(0), 0, 0);
        answerIs(paying(1), 1, 1);
        answerIs(paying(98), 98, 98);
        answerIs(paying(99), 99, 99);
        answerIs(paying(100), 99, 99);
        answerIs(paying(9999), 99, 99);
        answerIs(paying(99, 99, 99, 99, 99, 99, 99, 99), 99, 792);
        answerIs(paying(30, 10), 30, 30);
        answerIs(paying(30, 15), 15, 30);
        answerIs(paying(29, 15), 15, 30);
        answerIs(paying(31, 15), 31, 31);
        // All others as they are.
        LeftHands x = row(9, 9, 9);
        x.load(1, 0, 2, 0, 0, 50);
        int[] fees = {0, 1, 49, 50, 51, 99};
        int[] due = {50, 49, 1, 0, 0, 0};
        for (int k = 0; k < 6; k++) {
            x.put(1, 2, fees[k]);
            answerIs(x, due[k], due[k]);
            is(x.of(0, 2), 0);
        }
        // The lowest, if all bring him as much.
        LeftHands y = paying(50);
        lawInForce(y, "fee 8");
        answerIs(y, 0, 8);
        lawInForce(y, "fee 8 if asks>98");
        answerIs(y, 50, 50);
        lawInForce(y, "fee 1;fee 50 if asks=99");
        answerIs(y, 99, 50);
        lawInForce(y, "fee 51;fee 50 if asks=0");
        answerIs(y, 0, 50);
        lawInForce(y, "fee 51");
        answerIs(y, 0, 0);
    }

    private static void rest() {
        says("FEES are at REST, if nobody's INCOME would be greater by his ANSWER.");
        is(new LeftHands().restless(), NONE);
        is(ring(9, 9).restless(), NONE);
        is(paying(5).restless(), NONE);
        is(paying(6).restless(), 0);
        is(paying(4).restless(), 0);
        is(paying(0).restless(), NONE);
        // As much is not greater, though the ANSWER is another FEE.
        LeftHands x = paying(20, 10);
        x.put(0, 2, 20);
        is(x.answer(0, 0), 10);
        is(x.restless(), NONE);
        x.put(0, 2, 19);
        is(x.restless(), 0);
        // The first STAND, also if it is the last of all.
        LeftHands y = new LeftHands();
        for (int s = 0; s < 12; s++) y.stand(s == 11 ? 0 : NONE, 1, 9);
        is(y.restless(), NONE);
        y.load(1, 11, 0, 0, 0, 10);
        is(y.restless(), 11);
        y.put(11, 2, 10);
        is(y.restless(), NONE);
    }

    /** Stands 0 and 1, each of which wants to ask as much as the other, but for one more that 0 dares. */
    private static LeftHands climbing(int from) {
        LeftHands x = row(9, 9, 9);
        x.put(0, 2, from);
        x.put(1, 2, from);
        x.load(1, 0, 2, 0, 0, 200);
        x.load(1, 0, 2, 0, 0, 198);
        x.load(1, 0, 1, 0, 0, 99);
        x.load(1, 1, 2, 0, 0, 99);
        lawInForce(x, "fee asks;fee 2*asks if load=stand;fee 198-2*asks if load+stand=1");
        return x;
    }

    private static void rounds() {
        says("By ROUNDS each, lowest STANDS first, takes his ANSWER, if it brings him more: 50 ROUNDS at most.");
        is(new LeftHands().rests(NONE), 1);
        is(new LeftHands().rests(0), NONE);
        is(paying().rests(NONE), 1);
        is(paying(5).rests(NONE), 1);
        is(paying(6).rests(NONE), 2);
        is(paying(6).rests(0), 6);
        // All twelve, each for himself.
        LeftHands w = new LeftHands();
        for (int s = 0; s < 12; s++) w.stand((s + 1) % 12, 1, 50);
        for (int s = 4; s < 12; s++) w.load(1, s, (s + 1) % 12, 0, 0, s);
        is(w.rests(NONE), 2);
        for (int s = 0; s < 12; s++) is(w.rests(s), s < 4 ? 50 : s);
        is(w.restless(), 4);
        // The first takes all that there is; who gets nothing either way keeps his FEE.
        LeftHands x = row(9, 9, 9, 9);
        x.put(2, 2, 40);
        x.put(3, 2, 50);
        x.load(1, 0, 2, 0, 0, 30);
        is(x.rests(NONE), 2);
        is(x.rests(0), 30);
        is(x.rests(1), 0);
        is(x.rests(2), 40);
        is(x.rests(3), 50);
        is(x.of(0, 2), 0);
        x.put(0, 2, 1);
        x.put(1, 2, 30);
        is(x.rests(0), 1);
        is(x.rests(1), 29);
        // One more by each ROUND, up to 99 and one ROUND more.
        int[] from = {99, 98, 97, 60, 51, 50, 49, 48, 47, 40};
        for (int f : from) {
            LeftHands y = climbing(f);
            is(y.rests(NONE), Math.min(51, 100 - f));
            is(y.rests(0), Math.min(99, f + 50));
            is(y.rests(1), Math.min(99, f + 50));
            is(y.rests(2), 0);
            is(y.rests(3), NONE);
            is(y.rests(-2), NONE);
            is(y.of(0, 2), f);
        }
    }

    private static void pieces() {
        says("IN PIECES of WEIGHT 1 a LOAD goes alone on its WAY: each minute each porter hands on as many as the next one can HOLD by his STRENGTH (HANDS, LAWS, minutes left aside):");
        says("so many minutes till all have COME: as many as hands, and WEIGHT through the least STRENGTH of FROM and all between, rounded up, less 1 (FROM is WANT: 0).");
        int[][] rounded = {{9, 1, 9}, {9, 2, 5}, {9, 4, 3}, {9, 5, 2}, {9, 8, 2}, {9, 9, 1}, {8, 9, 1}, {8, 8, 1}, {8, 4, 2}, {1, 1, 1}, {1, 9, 1}, {6, 3, 2}, {7, 3, 3}};
        for (int[] r : rounded) {
            LeftHands x = row(r[1], 9);
            x.load(r[0], 0, 1, 0, 0, 0);
            is(x.pieces(0), r[2]);
            LeftHands y = row(9, 9, r[1], 1);
            y.load(r[0], 0, 3, 99, 0, 0);
            y.terms(1, 1);
            lawInForce(y, "bars");
            is(y.pieces(0), 3 + r[2] - 1);
            y.swap(0, 2);
            is(y.pieces(0), 3 + r[2] - 1);
        }
        LeftHands z = row(1, 1, 1, 1, 1, 1, 1, 1, 1, 1, 1, 1);
        z.load(9, 0, 11, 0, 0, 0);
        z.load(9, 0, 0, 0, 0, 0);
        z.load(9, 11, 11, 0, 0, 0);
        z.load(9, 11, 0, 0, 0, 0);
        is(z.pieces(0), 11 + 9 - 1);
        is(z.pieces(1), 0);
        is(z.pieces(2), 0);
        is(z.pieces(3), NONE);
        z.put(5, 1, 9);
        is(z.pieces(0), 19);
    }

    private static void signs() {
        says("SIGNS, 8 at most: a stolen carpet came to a STAND by so many hands (0 .. 99).");
        takes(row(1, 1), 0, 99, -1, (x, v) -> x.sign(1, v));
        takes(row(1, 1), 0, 1, -2, (x, v) -> x.sign(v, 5));
        LeftHands x = row(1, 1);
        for (int k = 1; k <= 8; k++) accepted(x, x.sign(1, 1), k);
        refused(x, x.sign(1, 1), -5);
        is(x.count(3), 8);
        is(x.clear(), 8);
        accepted(x, x.sign(1, 1), 1);

        says("THIEVES are all STANDS from which it comes to each of them by just so many hands by NEXT.");
        is(new LeftHands().thieves(), 0);
        is(row(1, 1, 1).thieves(), 7);
        is(ring(1, 1, 1, 1, 1, 1, 1, 1, 1, 1, 1, 1).thieves(), 4095);
        for (int hands = 0; hands <= 99; hands++) {
            LeftHands y = ring(1, 1, 1);
            y.sign(2, hands);
            is(y.thieves(), 1 << (2 + 99 - hands) % 3);
            LeftHands z = row(1, 1, 1);
            z.sign(2, hands);
            is(z.thieves(), hands <= 2 ? 4 >> hands : 0);
        }
        // Each of them, not one of them; many STANDS at once.
        LeftHands w = row(1, 1, 1, 1, 1);
        w.put(0, 0, 2);
        w.sign(4, 3);
        is(w.thieves(), 3);
        w.sign(2, 1);
        is(w.thieves(), 3);
        w.sign(1, 0);
        is(w.thieves(), 2);
        w.sign(0, 0);
        is(w.thieves(), 0);
        w.clear();
        is(w.thieves(), 31);
        // By the eighth, too.
        for (int k = 0; k < 7; k++) w.sign(4, 3);
        w.sign(0, 0);
        is(w.thieves(), 1);
        // NEXT, not LEFT: a STAND that is not there is none.
        LeftHands v = new LeftHands();
        v.stand(1, 1, 0);
        v.sign(0, 0);
        is(v.thieves(), 1);
        v.sign(0, 1);
        is(v.thieves(), 0);
        v.put(0, 0, 0);
        is(v.thieves(), 1);
    }

    private static long drawn(long s) {
        return (s * 1103 + 12345) % 1000003;
    }

    private static void drawnDay() {
        says("A DRAWN DAY with a SEED, on paper: s is the SEED (0 .. 1,000,000); a DRAW of n: s becomes (s times 1103 and 12345) modulo 1,000,003, it is s modulo n.");
        takes(row(5, 5), 0, 1000000, -1, LeftHands::draw);
        says("LOAD by LOAD a DRAW of 30 is its START; then STAND by STAND a DRAW of 3 that is 0: its porter has STRENGTH 1 less (1 at least).");
        LeftHands x = new LeftHands();
        for (int s = 0; s < 4; s++) x.stand(4, 2 + s, 7);
        x.stand(NONE, 1, 0);
        for (int l = 0; l < 4; l++) x.load(2 + l, l, 4, 90, 0, 0);
        x.terms(0, 14);
        int weakened = 0;
        for (int seed : new int[] {0, 1, 2, 3, 895, 896, 907, 499999, 500000, 999990, 999999, 1000000}) {
            long s = seed;
            int[] start = new int[4];
            for (int l = 0; l < 4; l++) {
                s = drawn(s);
                start[l] = (int) (s % 30);
            }
            int byNoon = 0;
            int[] come = new int[4];
            for (int l = 0; l < 4; l++) {
                s = drawn(s);
                come[l] = s % 3 == 0 ? NONE : start[l];
                if (come[l] == NONE) weakened++;
                else if (come[l] <= 14) byNoon++;
            }
            accepted(x, x.draw(seed), byNoon);
            for (int l = 0; l < 4; l++) {
                is(x.drawn(l, 0), come[l]);
                is(x.drawn(l, 1), start[l]);
            }
        }
        if (weakened < 5 || weakened > 43) fault("no fair draws: " + weakened);
        // 1 less, not more: lighter ones by 1 come all the same.
        for (int l = 0; l < 4; l++) {
            x.drop(0);
            x.load(1 + l, l, 4, 90, 0, 0);
        }
        x.terms(0, 99);
        for (int seed = 0; seed < 20; seed++) is(x.draw(seed), 4);
        // By hand: 895 gives what is just below 1,000,003, 896 what is above.
        LeftHands y = row(5, 5);
        y.load(1, 0, 1, 90, 0, 0);
        int[][] starts = {{0, 12345 % 30}, {1, 13448 % 30}, {895, 999530 % 30}, {896, 630 % 30}, {1000000, 9036 % 30}};
        for (int[] pair : starts) {
            y.draw(pair[0]);
            is(y.drawn(0, 1), pair[1]);
        }
    }

    private static void drawnStrength() {
        full();
        says("STRENGTH 1 less (1 at least)");
        LeftHands x = row(1, 1, 1);
        x.load(1, 0, 2, 90, 0, 0);
        for (int seed = 0; seed < 30; seed++) {
            is(x.draw(seed), 1);
            is(x.drawn(0, 0), x.drawn(0, 1) + 1);
        }

        says("The DAY is run so.");
        // A law is asked of his STRENGTH as it is then; NOON and HANDS are as ever, FEES too.
        LeftHands y = row(5, 5);
        y.put(0, 2, 30);
        y.load(1, 0, 1, 90, 4, 0);
        lawInForce(y, "bars if strength<5;bars if not asks=30");
        int weak = 0;
        for (int seed = 0; seed < 30; seed++) {
            long s = drawn(seed);
            boolean less = drawn(s) % 3 == 0;
            if (less) weak++;
            is(y.draw(seed), less ? 0 : 1);
            is(y.drawn(0, 0), less ? NONE : (int) (s % 30));
        }
        if (weak == 0 || weak == 30) fault("no fair draws");
        // On paper: nothing else has changed.
        is(y.of(0, 1), 5);
        is(y.fact(0, 3), 90);
        is(y.day(0, 0), 90);
        is(y.swaps(1, 0), NONE);
        y.terms(0, 90);
        is(y.swaps(1, 0), 0);
        is(y.home(0), 0);
    }

    // Twelve STANDS and eight LOADS: a DRAW for each, the last STAND's the twentieth.
    private static void full() {
        LeftHands x = row(5, 5, 5, 5, 5, 5, 5, 5, 5, 5, 5, 5);
        x.put(11, 0, 0);
        x.terms(0, 99);
        for (int l = 0; l < 8; l++) x.load(l == 7 ? 5 : 1, l == 7 ? 11 : l, l == 7 ? 0 : 11, 90, 0, 0);
        for (int seed = 0; seed < 12; seed++) {
            long s = seed;
            for (int l = 0; l < 7; l++) s = drawn(s);
            s = drawn(s);
            int start = (int) (s % 30);
            for (int p = 0; p < 12; p++) s = drawn(s);
            is(x.draw(seed), s % 3 == 0 ? 7 : 8);
            is(x.drawn(7, 1), start);
            is(x.drawn(7, 0), s % 3 == 0 ? NONE : start);
            is(x.drawn(8, 1), NONE);
        }
    }

    private static int[] join(int[]... rows) {
        int[] all = new int[0];
        for (int[] r : rows) {
            int[] longer = java.util.Arrays.copyOf(all, all.length + r.length);
            System.arraycopy(r, 0, longer, all.length, r.length);
            all = longer;
        }
        return all;
    }

    private static void rows() {
        says("A ROW of LOADS: the TAPE's bytes by sixes: WEIGHT, FROM, WANT, START, HASTE, PAY; one that can't be, one within which the TAPE ends, one for which there is no room is DROPPED: none.");
        int[] good = {9, 1, 0, 99, 9, 255};
        int[][] can = {{1, 0, 0, 0, 0, 0}, good, {5, 0, 1, 50, 5, 128}};
        for (int[] facts : can) {
            LeftHands x = row(9, 9);
            put(x, facts);
            accepted(x, x.row(), 1);
            is(x.dropped(), 0);
            is(x.count(6), 0);
            for (int k = 0; k < 6; k++) is(x.fact(0, k), facts[k]);
        }
        int[][] cannot = {{0, 0}, {0, 10}, {0, 255}, {1, 2}, {1, 255}, {2, 2}, {2, 12}, {3, 100}, {3, 255}, {4, 10}, {4, 255}};
        for (int[] one : cannot) {
            int[] bad = good.clone();
            bad[one[0]] = one[1];
            LeftHands x = row(9, 9);
            put(x, join(bad, good, bad));
            accepted(x, x.row(), 1);
            is(x.dropped(), 2);
            is(x.count(1), 1);
            is(x.fact(0, 3), 99);
        }
        for (int more = 0; more < 6; more++) {
            LeftHands x = row(9, 9);
            put(x, join(good, java.util.Arrays.copyOf(good, more)));
            accepted(x, x.row(), 1);
            is(x.dropped(), more == 0 ? 0 : 1);
            LeftHands y = row(9, 9);
            if (more == 0) continue;
            put(y, java.util.Arrays.copyOf(good, more));
            accepted(y, y.row(), 0);
            is(y.dropped(), 1);
            is(y.count(6), 0);
        }
        for (int room = 0; room <= 8; room++) {
            LeftHands x = row(9, 9);
            for (int l = room; l < 8; l++) x.load(1, 0, 1, 0, 0, 0);
            for (int l = 0; l < 4; l++) put(x, good);
            accepted(x, x.row(), Math.min(room, 4));
            is(x.dropped(), 4 - Math.min(room, 4));
        }
        // A whole TAPE: 66 sixes and four bytes.
        LeftHands z = row(9, 9);
        int[] whole = new int[400];
        for (int i = 0; i < 400; i++) whole[i] = new int[] {1, 0, 1, i / 6, 0, i / 6}[i % 6];
        put(z, whole);
        is(z.count(6), 400);
        accepted(z, z.row(), 8);
        is(z.dropped(), 59);
        is(z.fact(7, 3), 7);
        // Without STANDS none can be.
        LeftHands w = new LeftHands();
        put(w, 1, 0, 0, 0, 0, 0);
        accepted(w, w.row(), 0);
        is(w.dropped(), 1);
    }

    private static void images() {
        says("IMAGES 0, 1 keep all but the TAPE, FAULT, DROPPED, the latest DRAWN DAY;");
        says("BACK to one all that it keeps is as it was then (IMAGES stay).");
        for (int k = 0; k < 2; k++) {
            LeftHands x = row(5, 5, 5);
            for (int s = 0; s < 3; s++) x.put(s, 2, s);
            x.load(1, 0, 2, 3, 4, 50);
            x.sign(2, 1);
            law(x, "fee 3");
            x.force(0);
            x.terms(0, 30);
            x.terms(1, 3);
            String before = told(x);
            is(x.image(k), 0);
            x.stand(0, 1, 0);
            x.put(0, 0, NONE);
            x.put(1, 1, 1);
            x.put(2, 2, 99);
            x.load(2, 0, 1, 1, 1, 1);
            x.drop(0);
            x.clear();
            x.sign(0, 0);
            x.sign(0, 0);
            law(x, "fee 4");
            x.force(1);
            x.terms(0, 31);
            x.terms(1, 4);
            x.load(3, 1, 2, 0, 0, 0);
            // What it does not keep.
            law(x, "fee 1001");
            put(x, 0);
            x.row();
            x.draw(3);
            int start = x.drawn(1, 1);
            put(x, 7, 8, 9);
            accepted(x, x.back(k), 0);
            same(told(x), before);
            is(x.count(6), 3);
            is(x.fault(), 4);
            is(x.dropped(), 1);
            is(x.drawn(1, 1), start);
            is(x.drawn(2, 1), NONE);
        }
    }

    private static String told(LeftHands x) {
        StringBuilder all = new StringBuilder();
        int[] counts = {0, 1, 2, 3, 4, 5, 12, 13, 14};
        for (int what : counts) all.append(x.count(what)).append(' ');
        for (int s = 0; s < x.count(0); s++) {
            for (int what = 0; what < 4; what++) all.append(x.of(s, what)).append(' ');
            all.append(x.income(s)).append(' ').append(x.answer(s, 0)).append(' ');
        }
        for (int l = 0; l < x.count(1); l++) {
            for (int what = 0; what < 6; what++) all.append(x.fact(l, what)).append(' ');
            all.append(x.day(l, 0)).append(' ').append(x.cost(l)).append(' ').append(x.pieces(l)).append(' ');
        }
        all.append(x.thieves()).append(' ').append(x.choke()).append(' ').append(x.home(2)).append(' ').append(x.swaps(1, 5));
        return all.toString();
    }

    // Twelve STANDS, eight LOADS, six LAWS, eight SIGNS of one kind and of another.
    private static void fullImages() {
        LeftHands x = new LeftHands();
        x.image(0);
        fill(x, 0);
        x.image(1);
        String[] kept = {everything(x), ""};
        x.back(0);
        is(x.count(0), 0);
        fill(x, 1);
        x.image(0);
        kept[1] = everything(x);
        for (int k = 0; k < 2; k++) {
            x.back(1 - k);
            same(everything(x), kept[k]);
            for (int law = 0; law < 6; law++) {
                x.force(law);
                is(x.cost(0), (k == 0 ? 11 : 5) * (20 + 7 * law + k));
            }
        }
    }

    private static void fill(LeftHands x, int k) {
        for (int s = 0; s < 12; s++) x.stand((s + 1 + k) % 12, 5 + k, 10 * k + s);
        for (int l = 0; l < 8; l++) x.load(1 + (l + k) % 9, l + k, 11 - l, 2 * l + k, l + k, 100 * l + k);
        for (int g = 0; g < 8; g++) x.sign(g + k, (1 + k) * (g + 9) % 12);
        for (int law = 0; law < 6; law++) law(x, "fee 20+" + (7 * law + k));
        x.force(k + 2);
    }

    private static String everything(LeftHands x) {
        StringBuilder all = new StringBuilder();
        for (int what = 0; what < 4; what++) all.append(x.count(what)).append(' ');
        all.append(x.count(12)).append(' ').append(x.thieves()).append(' ');
        for (int s = 0; s < 12; s++) all.append(x.of(s, 0)).append(' ').append(x.of(s, 1)).append(' ').append(x.of(s, 2)).append(' ');
        for (int l = 0; l < 8; l++) {
            all.append(x.fact(l, 0)).append(' ').append(x.fact(l, 1) * 12 + x.fact(l, 2)).append(' ').append(x.fact(l, 5)).append(' ');
        }
        return all.toString();
    }

    private static void imagesStay() {
        says("BACK to one all that it keeps is as it was then (IMAGES stay).");
        LeftHands x = row(5, 5, 5);
        refused(x, x.back(0), -2);
        refused(x, x.back(1), -2);
        is(x.image(0), 0);
        refused(x, x.back(1), -2);
        x.put(0, 1, 6);
        is(x.image(1), 0);
        x.put(0, 1, 7);
        for (int i = 0; i < 3; i++) {
            is(x.back(0), 0);
            is(x.of(0, 1), 5);
            x.put(0, 1, 8);
            is(x.back(1), 0);
            is(x.of(0, 1), 6);
            x.put(0, 1, 9);
        }
        // One is kept anew.
        is(x.image(0), 0);
        x.put(0, 1, 1);
        is(x.back(0), 0);
        is(x.of(0, 1), 9);
        is(x.back(1), 0);
        is(x.of(0, 1), 6);
        // Laws, too, though others took their places.
        LeftHands y = row(5, 5);
        y.load(1, 0, 1, 0, 0, 0);
        for (int k = 0; k < 3; k++) law(y, "fee " + k);
        y.image(0);
        for (int k = 3; k < 6; k++) law(y, "fee " + k);
        y.image(1);
        y.force(5);
        is(y.cost(0), 5);
        y.back(0);
        is(y.count(2), 3);
        refused(y, y.force(3), -2);
        is(law(y, "fee 13"), 3);
        y.force(3);
        is(y.cost(0), 13);
        y.force(2);
        is(y.cost(0), 2);
        y.back(1);
        is(y.count(12), NONE);
        y.force(3);
        is(y.cost(0), 3);
        y.back(0);
        is(law(y, "fee 23"), 3);
        fullImages();
        // An empty one.
        LeftHands z = new LeftHands();
        z.image(1);
        z.stand(0, 1, 0);
        z.load(1, 0, 0, 0, 0, 0);
        z.back(1);
        is(z.count(0), 0);
        is(z.count(1), 0);
        is(z.stand(NONE, 2, 0), 0);
        is(z.of(0, 1), 2);
        // How many were REFUSED is not kept, nor what the latest was.
        refused(z, z.back(0), -2);
        is(z.count(8), 1);
        z.back(1);
        is(z.count(8), 1);
        is(z.status(), 0);
    }
}
