/** The document's promises, sentence by sentence: what each call answers, at its edges and beyond. */
final class Calls extends Checks {
    private Calls() { }

    static void ask() {
        newObject();
        standPutOf();
        loadFactDrop();
        terms();
        tape();
        rowAndDropped();
        lawAndFault();
        fullOfLaws();
        force();
        way();
        enter();
        day();
        whereAndHeld();
        searches();
        fees();
        signs();
        meet();
        drawn();
        images();
        counts();
        status();
        statusOfOthers();
        lastCall();
    }

    private static void newObject() {
        says("The constants: `NONE = -1`: There is none.");
        is(LeftHands.NONE, -1);

        says("No STANDS, LOADS, LAWS.");
        LeftHands x = new LeftHands();
        int[] due = {0, 0, 0, 0, 0, 0, 0, 0, 0, 0, 0, 0, NONE, 60, 2};
        for (int what = 0; what < due.length; what++) is(x.count(what), due[what]);
        is(x.of(0, 0), NONE);
        is(x.fact(0, 0), NONE);
        is(x.thieves(), 0);
        is(x.choke(), 0);
        is(x.restless(), NONE);
        is(x.rests(NONE), 1);
        is(x.clear(), 0);
        is(x.end(0), 0);
        is(x.end(1), NONE);
        is(x.draw(0), 0);
        // One object knows nothing of another.
        LeftHands y = row(5, 5);
        y.load(1, 0, 1, 0, 0, 0);
        is(x.count(0), 0);
        is(x.count(1), 0);
    }

    private static void standPutOf() {
        says("A STAND with its porter: its number. -1; -5.");
        LeftHands x = new LeftHands();
        accepted(x, x.stand(3, 4, 5), 0);
        accepted(x, x.stand(NONE, 9, 99), 1);
        refused(x, x.stand(-2, 4, 5), -1);
        accepted(x, x.stand(11, 1, 0), 2);
        for (int s = 3; s < 12; s++) accepted(x, x.stand(0, 1, 0), s);
        refused(x, x.stand(0, 1, 0), -5);
        refused(x, x.stand(0, 1, -1), -1);

        says("LEFT (what 0; NONE .. 11), STRENGTH (1), FEE (2) of a STAND: what it was. -1; -2.");
        accepted(x, x.put(0, 0, NONE), 3);
        accepted(x, x.put(0, 0, 11), NONE);
        accepted(x, x.put(0, 0, 11), 11);
        accepted(x, x.put(0, 1, 1), 4);
        accepted(x, x.put(0, 1, 9), 1);
        accepted(x, x.put(0, 2, 0), 5);
        accepted(x, x.put(0, 2, 99), 0);
        accepted(x, x.put(11, 2, 7), 0);
        takes(row(5, 5), 0, 2, -1, (y, what) -> y.put(0, what, 1));
        refused(x, x.put(12, 0, 0), -2);
        refused(x, x.put(-1, 2, 0), -2);
        // Others stay as they are.
        is(x.of(0, 0), 11);
        is(x.of(0, 1), 9);
        is(x.of(0, 2), 99);
        is(x.of(1, 0), NONE);
        is(x.of(1, 1), 9);

        says("LEFT (what 0), STRENGTH (1), FEE (2), NEXT (3) of a STAND. NONE.");
        LeftHands y = ring(4, 5);
        tells(y, 0, 3, (z, what) -> z.of(1, what));
        tells(y, 0, 1, (z, s) -> z.of(s, 1));
        int[] due = {0, 5, 2, 0};
        for (int what = 0; what < 4; what++) is(y.of(1, what), due[what]);
    }

    private static void loadFactDrop() {
        says("A LOAD: its number. -1; -2 FROM, WANT; -5.");
        LeftHands x = row(9, 9, 9);
        for (int l = 0; l < 8; l++) accepted(x, x.load(l + 1, l % 3, 2, l * 10, l, l * 1000), l);
        refused(x, x.load(0, 0, 1, 0, 0, 0), -1);
        refused(x, x.load(1, 3, 1, 0, 0, 0), -2);
        refused(x, x.load(1, 0, 3, 0, 0, 0), -2);
        refused(x, x.load(1, 0, NONE, 0, 0, 0), -2);
        refused(x, x.load(1, 0, 1, 0, 0, 0), -5);
        is(x.count(1), 8);

        says("Of a LOAD 0 WEIGHT, 1 FROM, 2 WANT, 3 START, 4 HASTE, 5 PAY. NONE.");
        for (int l = 0; l < 8; l++) {
            int[] due = {l + 1, l % 3, 2, l * 10, l, l * 1000};
            for (int what = 0; what < 6; what++) is(x.fact(l, what), due[what]);
        }
        tells(x, 0, 5, (z, what) -> z.fact(7, what));
        tells(x, 0, 7, (z, l) -> z.fact(l, 0));

        says("A LOAD goes, those behind it move up: how many are left. -2.");
        accepted(x, x.drop(7), 7);
        is(x.fact(7, 0), NONE);
        is(x.fact(6, 0), 7);
        accepted(x, x.drop(0), 6);
        for (int l = 0; l < 6; l++) is(x.fact(l, 0), l + 2);
        for (int l = 0; l < 6; l++) is(x.fact(l, 5), (l + 1) * 1000);
        accepted(x, x.drop(2), 5);
        int[] weights = {2, 3, 5, 6, 7};
        for (int l = 0; l < 5; l++) is(x.fact(l, 0), weights[l]);
        refused(x, x.drop(5), -2);
        refused(x, x.drop(-1), -2);
        accepted(x, x.load(9, 0, 1, 0, 0, 0), 5);
        is(x.fact(5, 0), 9);
        for (int left = 5; left >= 0; left--) accepted(x, x.drop(0), left);
        refused(x, x.drop(0), -2);
        is(x.count(1), 0);
        accepted(x, x.load(4, 0, 1, 0, 0, 0), 0);
        is(x.fact(0, 0), 4);
    }

    private static void terms() {
        says("A TERM: what it was. -1.");
        LeftHands x = new LeftHands();
        accepted(x, x.terms(0, 60), 60);
        accepted(x, x.terms(0, 0), 60);
        accepted(x, x.terms(0, 99), 0);
        accepted(x, x.terms(0, 1), 99);
        accepted(x, x.terms(1, 2), 2);
        accepted(x, x.terms(1, 1), 2);
        accepted(x, x.terms(1, 4), 1);
        refused(x, x.terms(0, 100), -1);
        refused(x, x.terms(0, -1), -1);
        refused(x, x.terms(1, 5), -1);
        refused(x, x.terms(1, 0), -1);
        refused(x, x.terms(2, 1), -1);
        refused(x, x.terms(-1, 1), -1);
        accepted(x, x.terms(0, 1), 1);
        accepted(x, x.terms(1, 4), 4);
    }

    private static void tape() {
        says("Twenty bytes come behind the TAPE, four of each number, the highest first: how many it has. NONE, if there would be more than 400.");
        LeftHands x = new LeftHands();
        for (int n = 20; n <= 400; n += 20) is(x.feed(n, 0, -1, Integer.MIN_VALUE, Integer.MAX_VALUE), n);
        is(x.feed(0, 0, 0, 0, 0), NONE);
        is(x.count(6), 400);
        is(x.end(381), 381);
        is(x.feed(0, 0, 0, 0, 0), NONE);
        is(x.count(6), 381);
        is(x.end(380), 380);
        is(x.feed(0, 0, 0, 0, 0), 400);
        // The highest byte first, without a sign: each byte of four as each of the facts of a LOAD.
        LeftHands y = row(9, 9, 9);
        is(y.feed(0x09020163, 0x09ff0102, 0x00000080, 0x01000100, 0x00fe0200), 20);
        is(y.row(), 3);
        is(y.dropped(), 1);
        int[][] due = {{9, 2, 1, 99, 9, 255}, {1, 2, 0, 0, 0, 128}, {1, 0, 1, 0, 0, 254}};
        for (int l = 0; l < 3; l++) {
            for (int what = 0; what < 6; what++) is(y.fact(l, what), due[l][what]);
        }
        // All five of them, one behind the other; behind what is there.
        LeftHands z = new LeftHands();
        z.feed(0x62617273, 0x3b626172, 0x733b6261, 0x72733b66, 0x65652031);
        is(z.feed(0x3b62617a, 0, 0, 0, 0), 40);
        refused(z, z.law(), -6);
        is(z.fault(), 21);

        says("The TAPE has its first n bytes alone: n. NONE, if it has not so many, or n is below 0.");
        LeftHands w = new LeftHands();
        is(w.end(0), 0);
        is(w.end(1), NONE);
        put(w, Feeder.bytesOf("bars;"));
        is(w.end(6), NONE);
        is(w.end(-1), NONE);
        is(w.end(Integer.MIN_VALUE), NONE);
        is(w.end(Integer.MAX_VALUE), NONE);
        is(w.count(6), 5);
        is(w.end(5), 5);
        is(w.end(4), 4);
        is(w.count(6), 4);
        is(w.end(5), NONE);
        is(w.law(), 0);
        put(w, Feeder.bytesOf("fee 12"));
        is(w.end(0), 0);
        is(w.count(6), 0);
        refused(w, w.law(), -6);
        is(w.fault(), 0);
    }

    private static void rowAndDropped() {
        says("How many were DROPPED in the latest row() that was not REFUSED (0 ahead of any).");
        LeftHands x = row(9, 9);
        is(x.dropped(), 0);
        refused(x, x.row(), -6);
        is(x.dropped(), 0);
        put(x, 0, 0, 0, 0, 0, 0, 1);
        accepted(x, x.row(), 0);
        is(x.dropped(), 2);

        says("A ROW of LOADS, the TAPE is empty then: how many came. -6 the TAPE is empty.");
        is(x.count(6), 0);
        refused(x, x.row(), -6);
        is(x.dropped(), 2);
        put(x, 1);
        accepted(x, x.row(), 0);
        is(x.dropped(), 1);
        put(x, 1, 0, 1, 0, 0, 0);
        accepted(x, x.row(), 1);
        is(x.count(6), 0);
        is(x.dropped(), 0);
        put(x, 9);
        x.end(0);
        refused(x, x.row(), -6);
        is(x.dropped(), 0);
    }

    private static void lawAndFault() {
        says("The TAPE, which is empty then, becomes a LAW: its number. -5 (ahead of reading it; the TAPE is empty then, too); -6 (blanks alone: FAULT at the end).");
        LeftHands x = new LeftHands();
        is(x.fault(), NONE);
        refused(x, x.law(), -6);
        is(x.fault(), 0);
        for (int blanks : new int[] {1, 2, 19, 20, 21, 399, 400}) {
            LeftHands y = new LeftHands();
            refused(y, law(y, " ".repeat(blanks)), -6);
            is(y.fault(), blanks);
            is(y.count(6), 0);
            is(y.count(2), 0);
        }
        accepted(x, law(x, "bars"), 0);
        is(x.count(6), 0);
        refused(x, x.law(), -6);
        is(x.count(2), 1);
        refused(x, law(x, "bars if"), -6);
        is(x.count(6), 0);
        accepted(x, law(x, "fee 2"), 1);
        for (int k = 2; k < 6; k++) accepted(x, law(x, "first " + k), k);
        put(x, Feeder.bytesOf("bars"));
        refused(x, x.law(), -5);
        is(x.count(6), 0);
        is(x.count(2), 6);

        says("FAULT of the latest law() that read a TEXT: its place; NONE without.");
        LeftHands z = new LeftHands();
        is(z.fault(), NONE);
        law(z, "bars x");
        is(z.fault(), 5);
        is(z.fault(), 5);
        put(z, Feeder.bytesOf("bars"));
        is(z.fault(), 5);
        z.row();
        is(z.fault(), 5);
        law(z, "bars");
        is(z.fault(), NONE);
        law(z, "x");
        is(z.fault(), 0);
    }

    private static void fullOfLaws() {
        says("FAULT of the latest law() that read a TEXT: its place; NONE without.");
        LeftHands x = new LeftHands();
        for (int k = 0; k < 6; k++) law(x, "bars");
        x.image(0);
        is(x.fault(), NONE);
        refused(x, law(x, "fee fee"), -5);
        is(x.fault(), NONE);
        LeftHands y = new LeftHands();
        y.image(1);
        for (int k = 0; k < 6; k++) law(y, "bars");
        y.image(0);
        y.back(1);
        refused(y, law(y, "fee fee"), -6);
        is(y.fault(), 4);
        y.back(0);
        // No room: no TEXT is read, so the FAULT is as it was.
        refused(y, law(y, "bars"), -5);
        is(y.fault(), 4);
        refused(y, law(y, "x"), -5);
        is(y.fault(), 4);
    }

    private static void force() {
        says("A LAW is in FORCE (NONE: none): which was. -2.");
        LeftHands x = new LeftHands();
        refused(x, x.force(0), -2);
        accepted(x, x.force(NONE), NONE);
        for (int k = 0; k < 6; k++) law(x, "fee " + k);
        takes(x, -1, 5, -2, LeftHands::force);
        x.force(NONE);
        accepted(x, x.force(5), NONE);
        accepted(x, x.force(5), 5);
        refused(x, x.force(6), -2);
        is(x.count(12), 5);
        accepted(x, x.force(0), 5);
        accepted(x, x.force(NONE), 0);
        is(x.count(12), NONE);
    }

    private static void way() {
        says("The WAY of a LOAD: how many hands (i NONE), the i-th STAND of it (FROM first, WANT last). NONE (no WAY, too).");
        LeftHands x = row(1, 1, 1, 1);
        x.load(1, 0, 3, 0, 0, 0);
        x.load(1, 1, 1, 0, 0, 0);
        x.load(1, 1, 0, 0, 0, 0);
        is(x.way(0, NONE), 3);
        tells(x, -1, 3, (z, i) -> z.way(0, i));
        for (int i = 0; i < 4; i++) is(x.way(0, i), i);
        is(x.way(1, NONE), 0);
        tells(x, -1, 0, (z, i) -> z.way(1, i));
        is(x.way(1, 0), 1);
        for (int i = -2; i < 3; i++) is(x.way(2, i), NONE);
        tells(x, 0, 1, (z, l) -> z.way(l, 0));
    }

    private static void enter() {
        says("STANDS from which one comes to a STAND by NEXT without any of some STANDS (bits), that one itself, too, if it is not of these; as bits. NONE.");
        LeftHands x = ring(1, 1, 1, 1);
        x.stand(2, 1, 0);
        x.stand(NONE, 1, 0);
        x.stand(11, 1, 0);
        is(x.enter(3, 0), 31);
        is(x.enter(3, 8), 0);
        is(x.enter(3, 4), 8);
        is(x.enter(3, 2), 4 | 8 | 16);
        is(x.enter(3, 16), 15);
        is(x.enter(3, 1), 2 | 4 | 8 | 16);
        is(x.enter(4, 0), 16);
        is(x.enter(5, 0), 32);
        is(x.enter(5, 31 | 64), 32);
        is(x.enter(5, 32), 0);
        is(x.enter(6, 0), 64);
        is(x.enter(0, 127), 0);
        is(x.enter(0, 126), 1);
        tells(x, 0, 6, (z, s) -> z.enter(s, 0));
        tells(x, 0, 127, (z, bits) -> z.enter(1, bits));
        LeftHands y = ring(1, 1, 1, 1, 1, 1, 1, 1, 1, 1, 1, 1);
        is(y.enter(0, 0), 4095);
        is(y.enter(0, 1 << 11), 1);
        is(y.enter(0, 2), 4095 - 2);
        is(y.enter(11, 4095), 0);
        tells(y, 0, 4095, (z, bits) -> z.enter(11, bits));
        is(new LeftHands().enter(0, 0), NONE);
    }

    private static void day() {
        says("Of the DAY: the minute in which a LOAD COMES (what 0), by how much it is LATE (1; 0: not), where it is at the end (2), how many minutes it WAITED in all (3). NONE (for 0, 1 FAILED; for 2 it has COME, is nowhere; 3 is told of all).");
        LeftHands x = row(5, 5, 5);
        x.load(1, 0, 1, 99, 0, 0);
        x.load(1, 0, 2, 99, 0, 0);
        x.load(6, 0, 1, 0, 0, 0);
        x.load(1, 2, 0, 97, 0, 0);
        int[][] due = {{99, 39, NONE, 0}, {NONE, NONE, 1, 0}, {NONE, NONE, NONE, 0}, {NONE, NONE, 2, 3}};
        for (int l = 0; l < 4; l++) {
            for (int what = 0; what < 4; what++) is(x.day(l, what), due[l][what]);
        }
        tells(x, 0, 3, (z, what) -> what == 2 ? 0 : z.day(0, what));
        tells(x, 0, 3, (z, l) -> z.day(l, 3));
        // In all: what it waited at each of its STANDS.
        LeftHands y = ring(5, 5, 5);
        y.load(1, 0, 2, 0, 0, 0);
        lawInForce(y, "bars if waits<4");
        is(y.day(0, 3), 8);
        is(y.day(0, 0), 9);
    }

    private static void whereAndHeld() {
        says("In which STAND a LOAD is behind a minute 0 .. 99 of the DAY. NONE (nowhere yet, COME).");
        LeftHands x = row(5, 5, 5);
        x.load(2, 0, 2, 1, 0, 0);
        x.load(3, 2, 0, 0, 0, 0);
        x.load(4, 2, 0, 0, 0, 0);
        is(x.where(0, 0), NONE);
        is(x.where(0, 1), 1);
        is(x.where(0, 2), NONE);
        tells(x, 1, 1, (z, minute) -> z.where(0, minute));
        tells(x, 0, 99, (z, minute) -> z.where(1, minute));
        is(x.where(2, 0), NONE);
        is(x.where(2, 99), NONE);
        is(x.where(3, 0), NONE);
        is(x.where(-1, 0), NONE);

        says("How many LOADS a porter holds behind a minute (what 0), what they weigh together (1). NONE.");
        is(x.held(1, 0, 0), 0);
        is(x.held(1, 1, 0), 1);
        is(x.held(1, 1, 1), 2);
        is(x.held(0, 1, 0), 0);
        is(x.held(2, 2, 0), 1);
        is(x.held(2, 2, 1), 3);
        tells(x, 0, 99, (z, minute) -> z.held(0, minute, 0));
        tells(x, 0, 99, (z, minute) -> z.held(2, minute, 1));
        tells(x, 0, 1, (z, what) -> z.held(2, 0, what));
        tells(x, 0, 2, (z, s) -> z.held(s, 0, 0));
        x.terms(1, 4);
        x.put(2, 1, 9);
        is(x.held(2, 0, 0), 2);
        is(x.held(2, 0, 1), 7);
        is(new LeftHands().held(0, 0, 0), NONE);
        // Of eight LOADS, in each minute up to the last.
        LeftHands w = row(9, 9);
        w.terms(1, 4);
        w.put(0, 0, NONE);
        for (int l = 0; l < 8; l++) w.load(1, l < 4 ? 0 : 1, 1 - l / 4, l < 4 ? 50 : 60, 0, 0);
        int[][] held = {{49, 0, 0}, {50, 4, 0}, {59, 4, 0}, {60, 4, 4}, {98, 4, 4}, {99, 4, 4}};
        for (int[] h : held) {
            for (int what = 0; what < 2; what++) {
                is(w.held(0, h[0], what), h[1]);
                is(w.held(1, h[0], what), h[2]);
            }
        }

        says("The ROUND that CHOKES, as bits of STANDS. 0 without.");
        is(x.choke(), 0);
        LeftHands y = ring(1, 1);
        y.stand(NONE, 1, 0);
        y.load(1, 0, 2, 0, 0, 0);
        is(y.choke(), 0);
        y.load(1, 1, 2, 0, 0, 0);
        is(y.choke(), 3);
    }

    private static void searches() {
        says("FEWEST SWAPS for some LOADS (bits): how many (what 0), STANDS of the first (1, 2), of the second (3, 4), in how many ways (5: as rows of pairs; 0: not with 2). NONE (not with 2, but for 5; for 1 .. 4 where there are not so many).");
        LeftHands x = row(5, 1, 5, 5);
        x.put(2, 0, NONE);
        x.load(5, 0, 2, 0, 0, 0);
        x.load(6, 0, 2, 0, 0, 0);
        int[][] due = {{0, NONE, NONE, NONE, NONE, 1}, {1, 1, 2, NONE, NONE, 2}, {NONE, NONE, NONE, NONE, NONE, 0}, {NONE, NONE, NONE, NONE, NONE, 0}};
        for (int loads = 0; loads < 4; loads++) {
            for (int what = 0; what < 6; what++) is(x.swaps(loads, what), due[loads][what]);
        }
        tells(x, 0, 3, (z, loads) -> z.swaps(loads, 5));
        tells(x, 5, 5, (z, what) -> z.swaps(2, what));
        tells(x, 0, 0, (z, what) -> what == 5 ? NONE : z.swaps(0, what));
        // Two: 0 and 1 need 8 and 9 of strength, each in its place.
        LeftHands y = new LeftHands();
        y.stand(2, 1, 0);
        y.stand(2, 1, 0);
        y.stand(NONE, 8, 0);
        y.stand(NONE, 9, 0);
        y.load(8, 0, 2, 0, 0, 0);
        y.load(9, 1, 2, 0, 0, 0);
        int[] two = {2, 0, 2, 1, 3, 2};
        for (int what = 0; what < 6; what++) is(y.swaps(3, what), two[what]);

        says("The porters of two STANDS change places: 0. -2; -3 the same one.");
        accepted(y, y.swap(0, 2), 0);
        accepted(y, y.swap(3, 1), 0);
        is(y.swaps(3, 0), 0);
        refused(y, y.swap(0, 0), -3);
        refused(y, y.swap(3, 3), -3);
        refused(y, y.swap(4, 4), -2);
        refused(y, y.swap(0, 4), -2);
        refused(y, y.swap(-1, 0), -2);
        is(y.of(0, 1), 8);
        is(y.of(1, 1), 9);

        says("FEWEST HOME: how many (what 0), which (1), how many sets of so many (2; 0). NONE (not with 3, for 0, 1).");
        LeftHands z = row(5, 5, 1, 5, 5);
        z.load(5, 0, 4, 0, 0, 0);
        is(z.home(0), 1);
        is(z.home(1), 4);
        is(z.home(2), 1);
        tells(z, 0, 2, LeftHands::home);
        z.put(4, 0, 0);
        z.load(1, 2, 2, 0, 0, 0);
        tells(z, 2, 2, LeftHands::home);
        is(z.home(2), 0);
        is(z.home(0), NONE);
        is(z.home(1), NONE);
    }

    private static void fees() {
        says("COST of a LOAD. NONE (no WAY).");
        LeftHands x = row(5, 5, 5);
        x.put(0, 2, 3);
        x.put(1, 2, 4);
        x.load(1, 0, 2, 0, 0, 7);
        x.load(1, 2, 0, 0, 0, 7);
        x.load(1, 2, 2, 0, 0, 7);
        is(x.cost(0), 7);
        is(x.cost(1), NONE);
        is(x.cost(2), 0);
        is(x.cost(3), NONE);
        is(x.cost(-1), NONE);

        says("Whether a LOAD is SENT: 1, 0. NONE.");
        is(x.sent(0), 1);
        is(x.sent(1), 0);
        is(x.sent(2), 1);
        tells(x, 0, 2, LeftHands::sent);
        x.put(1, 2, 5);
        is(x.sent(0), 0);

        says("INCOME of a porter. NONE.");
        tells(x, 0, 2, LeftHands::income);
        is(x.income(0), 0);
        x.put(1, 2, 4);
        is(x.income(0), 3);
        is(x.income(1), 4);
        is(x.income(2), 0);

        says("ANSWER of a porter: the FEE (what 0), the INCOME by it (1). NONE.");
        tells(x, 0, 1, (z, what) -> z.answer(0, what));
        tells(x, 0, 2, (z, s) -> z.answer(s, 0));
        x.put(0, 2, 2);
        is(x.answer(0, 0), 3);
        is(x.answer(0, 1), 3);
        is(x.answer(1, 0), 5);
        is(x.answer(2, 1), 0);

        says("The first STAND whose FEE is not at REST. NONE.");
        is(x.restless(), 0);
        x.put(0, 2, 3);
        is(x.restless(), NONE);
        x.put(0, 2, 4);
        is(x.restless(), 0);
        x.put(0, 2, 7);
        x.put(1, 2, 1);
        // 0 would get 6, 1 nothing by his 0.
        is(x.restless(), 0);
        x.put(0, 0, 2);
        x.load(1, 1, 2, 0, 0, 9);
        is(x.restless(), 1);

        says("ROUNDS of ANSWERS: after how many nobody changed any more (what NONE; that one, too; 51: still); the FEE of STAND what then. NONE.");
        is(x.rests(NONE), 2);
        is(x.rests(1), 9);
        tells(x, -1, 2, (z, what) -> what == 1 || what == 2 || what == 0 || what == NONE ? 5 : z.rests(what));
        is(x.rests(0), 7);
        is(x.rests(2), 0);
        is(x.of(1, 2), 1);
        x.put(1, 2, 9);
        is(x.rests(NONE), 1);

        says("A LOAD IN PIECES. NONE (no WAY).");
        is(x.pieces(0), 1);
        is(x.pieces(1), NONE);
        is(x.pieces(2), 0);
        is(x.pieces(3), 1);
        is(x.pieces(4), NONE);
        is(x.pieces(-1), NONE);
    }

    private static void signs() {
        says("A SIGN: how many there are. -1; -2; -5.");
        LeftHands x = row(5, 5);
        refused(x, x.sign(2, 100), -1);
        refused(x, x.sign(0, -1), -1);
        refused(x, x.sign(2, 99), -2);
        refused(x, x.sign(-1, 0), -2);
        for (int k = 1; k <= 8; k++) accepted(x, x.sign(k % 2, k % 2), k);
        refused(x, x.sign(0, 0), -5);
        refused(x, x.sign(2, 0), -2);

        says("SIGNS are none then: how many there were.");
        is(x.clear(), 8);
        is(x.count(3), 0);
        is(x.clear(), 0);
        accepted(x, x.sign(1, 99), 1);
        is(x.clear(), 1);

        says("THIEVES, as bits (all STANDS without SIGNS).");
        is(x.thieves(), 3);
        is(new LeftHands().thieves(), 0);
        x.sign(1, 1);
        is(x.thieves(), 1);
        x.sign(1, 0);
        is(x.thieves(), 0);
        x.clear();
        is(x.thieves(), 3);
        for (int s = 2; s < 12; s++) x.stand(0, 1, 0);
        is(x.thieves(), 4095);
        x.sign(0, 1);
        is(x.thieves(), 4092);
    }

    private static void meet() {
        says("By how many hands each (as many, the fewest) what is at two STANDS comes to the same one: that many (what 0), which STAND (1). NONE (never, too).");
        LeftHands x = new LeftHands();
        int[] left = {1, 2, 3, 4, 5, 11, 7, 3, 8, NONE, 9, 11};
        for (int l : left) x.stand(l, 1, 0);
        int[][] due = {{0, 0, 0, 0}, {11, 11, 0, 11}, {9, 9, 0, 9}, {2, 7, 1, 3}, {1, 6, 2, 3}, {0, 1, 6, 11}, {5, 11, 1, 11}, {0, 11, 6, 11},
            {0, 6, 6, 11}, {4, 6, 5, 11}};
        for (int[] d : due) {
            is(x.meet(d[0], d[1], 0), d[2]);
            is(x.meet(d[0], d[1], 1), d[3]);
            is(x.meet(d[1], d[0], 0), d[2]);
            is(x.meet(d[1], d[0], 1), d[3]);
        }
        // One ends, one goes round elsewhere, both end at different STANDS.
        int[][] never = {{8, 11}, {9, 11}, {9, 10}, {0, 9}, {8, 9}};
        for (int[] n : never) {
            is(x.meet(n[0], n[1], 0), NONE);
            is(x.meet(n[0], n[1], 1), NONE);
        }
        // In one ring they keep their distance.
        LeftHands y = ring(1, 1, 1, 1, 1, 1, 1, 1, 1, 1, 1, 1);
        is(y.meet(0, 6, 0), NONE);
        is(y.meet(0, 11, 1), NONE);
        is(y.meet(5, 5, 0), 0);
        tells(x, 0, 1, (z, what) -> z.meet(2, 7, what));
        tells(x, 0, 11, (z, s) -> s == 8 || s == 9 || s == 10 ? 5 : z.meet(11, s, 0));
        is(x.meet(12, 0, 0), NONE);
        is(x.meet(0, -1, 1), NONE);
        is(new LeftHands().meet(0, 0, 0), NONE);
    }

    private static void drawn() {
        says("A DRAWN DAY, kept as the latest: how many LOADS COME by NOON. -1.");
        LeftHands x = row(9, 9);
        is(x.drawn(0, 0), NONE);
        accepted(x, x.draw(0), 0);
        is(x.drawn(0, 0), NONE);
        x.load(1, 0, 1, 90, 0, 0);
        is(x.drawn(0, 0), NONE);
        // 12345 modulo 30 is 15.
        accepted(x, x.draw(0), 1);
        x.terms(0, 15);
        accepted(x, x.draw(0), 1);
        x.terms(0, 14);
        accepted(x, x.draw(0), 0);
        refused(x, x.draw(-1), -1);
        refused(x, x.draw(1000001), -1);
        refused(x, x.draw(Integer.MIN_VALUE), -1);
        refused(x, x.draw(Integer.MAX_VALUE), -1);

        says("The minute in which a LOAD COMES in the latest DRAWN DAY (what 0), its START there (1). NONE.");
        is(x.drawn(0, 0), 15);
        is(x.drawn(0, 1), 15);
        tells(x, 0, 1, (z, what) -> z.drawn(0, what));
        tells(x, 0, 0, (z, l) -> z.drawn(l, 1));
        accepted(x, x.draw(1000000), 1);
        is(x.drawn(0, 1), 6);
        // What comes behind does not change it.
        x.put(0, 0, NONE);
        is(x.drawn(0, 0), 6);
        x.draw(0);
        is(x.drawn(0, 0), NONE);
        is(x.drawn(0, 1), 15);
        for (int l = 1; l < 8; l++) x.load(1, 0, 1, 0, 0, 0);
        is(x.drawn(1, 1), NONE);
        x.draw(5);
        tells(x, 0, 7, (z, l) -> z.drawn(l, 1));
    }

    private static void images() {
        says("IMAGE k is kept: 0; -1.");
        LeftHands x = row(5);
        refused(x, x.image(2), -1);
        refused(x, x.image(-1), -1);
        refused(x, x.image(Integer.MAX_VALUE), -1);

        says("BACK to IMAGE k: 0. -1; -2 it was not kept.");
        refused(x, x.back(0), -2);
        refused(x, x.back(2), -1);
        refused(x, x.back(-1), -1);
        accepted(x, x.image(1), 0);
        refused(x, x.back(0), -2);
        accepted(x, x.back(1), 0);
        accepted(x, x.image(0), 0);
        accepted(x, x.back(0), 0);
    }

    private static void counts() {
        says("0 STANDS, 1 LOADS, 2 LAWS, 3 SIGNS, 4 LOADS that COME by NOON, 5 LOADS that FAILED, 6 bytes of the TAPE,");
        says(" 7 .. 11 how many calls were REFUSED by -1, -2, -3, -5, -6 (IMAGES do not keep that), 12 the LAW in FORCE, 13 NOON, 14 HANDS. NONE for others.");
        LeftHands x = row(5, 5, 5);
        x.load(1, 0, 2, 59, 0, 0);
        x.load(1, 0, 2, 60, 0, 0);
        x.load(1, 0, 2, 99, 0, 0);
        x.load(6, 0, 2, 0, 0, 0);
        x.load(6, 1, 1, 60, 0, 0);
        law(x, "bars");
        law(x, "fee 1");
        x.force(1);
        x.sign(0, 0);
        x.feed(1, 2, 3, 4, 5);
        x.terms(1, 3);
        x.image(0);
        for (int k = 0; k < 6; k++) x.draw(-1);
        for (int k = 0; k < 5; k++) x.drop(5);
        for (int k = 0; k < 4; k++) x.swap(0, 0);
        for (int k = 2; k < 6; k++) {
            x.end(0);
            law(x, "bars");
        }
        for (int k = 0; k < 3; k++) x.law();
        for (int k = 0; k < 2; k++) x.row();
        x.feed(1, 2, 3, 4, 5);
        int[] due = {3, 5, 6, 1, 2, 2, 20, 6, 5, 4, 3, 2, 1, 60, 3};
        for (int what = 0; what < due.length; what++) is(x.count(what), due[what]);
        x.back(0);
        due[2] = 2;
        for (int what = 0; what < due.length; what++) is(x.count(what), due[what]);
        tells(x, 0, 14, LeftHands::count);
        is(x.count(12), 1);
        x.force(NONE);
        is(x.count(12), NONE);
        // What is refused is counted, what tells NONE is not.
        x.of(9, 9);
        x.fact(9, 9);
        x.end(999);
        x.way(9, 0);
        x.enter(9, 0);
        x.day(9, 9);
        x.where(9, 9);
        x.held(9, 9, 9);
        x.swaps(999, 0);
        x.home(9);
        x.cost(9);
        x.sent(9);
        x.income(9);
        x.answer(9, 9);
        x.rests(9);
        x.pieces(9);
        x.meet(9, 9, 9);
        x.drawn(9, 9);
        x.count(99);
        for (int k = 0; k < 25; k++) x.feed(0, 0, 0, 0, 0);
        for (int what = 7; what < 12; what++) is(x.count(what), due[what]);
    }

    private static void status() {
        says("What the latest call of stand, put, load, drop, terms, row, law, force, swap, sign, draw, image, back was REFUSED by; 0 if it was not, or ahead of any.");
        is(new LeftHands().status(), 0);
        Call[] good = {x -> x.stand(0, 1, 0), x -> x.put(0, 0, 0), x -> x.load(1, 0, 0, 0, 0, 0), x -> x.drop(0), x -> x.terms(0, 0),
            LeftHands::row, LeftHands::law, x -> x.force(NONE), x -> x.swap(0, 1), x -> x.sign(0, 0), x -> x.draw(0), x -> x.image(1), x -> x.back(0)};
        Call[] bad = {x -> x.stand(0, 0, 0), x -> x.put(9, 0, 0), x -> x.load(1, 9, 0, 0, 0, 0), x -> x.drop(9), x -> x.terms(0, -1),
            LeftHands::row, LeftHands::law, x -> x.force(9), x -> x.swap(0, 0), x -> x.sign(9, 0), x -> x.draw(-1), x -> x.image(-1), x -> x.back(9)};
        int[] why = {-1, -2, -2, -2, -1, -6, -6, -2, -3, -2, -1, -1, -1};
        for (int i = 0; i < good.length; i++) {
            LeftHands x = row(5, 5);
            x.load(1, 0, 1, 0, 0, 0);
            x.image(0);
            x.end(0);
            is(x.status(), 0);
            refused(x, bad[i].on(x), why[i]);
            is(x.status(), why[i]);
            put(x, i == 6 ? Feeder.bytesOf("bars") : new int[] {1});
            is(x.status(), why[i]);
            good[i].on(x);
            is(x.status(), 0);
            x.end(0);
            refused(x, bad[i].on(x), why[i]);
            // The next one tells of itself.
            refused(x, x.swap(1, 1), -3);
            x.terms(0, 60);
            is(x.status(), 0);
        }
    }

    private static void statusOfOthers() {
        says("What the latest call of stand, put, load, drop, terms, row, law, force, swap, sign, draw, image, back was REFUSED by; 0 if it was not, or ahead of any.");
        Call[] others = {x -> x.of(0, 0), x -> x.of(9, 0), x -> x.fact(0, 0), x -> x.fact(9, 9), x -> x.feed(0, 0, 0, 0, 0), x -> x.end(0), x -> x.end(-1),
            LeftHands::dropped, LeftHands::fault, x -> x.way(0, 0), x -> x.way(9, 9), x -> x.enter(0, 0), x -> x.enter(9, 0), x -> x.day(0, 0), x -> x.day(9, 0),
            x -> x.where(0, 0), x -> x.where(9, 0), x -> x.held(0, 0, 0), x -> x.held(9, 0, 0), LeftHands::choke, x -> x.swaps(1, 0), x -> x.swaps(9, 0),
            x -> x.home(0), x -> x.home(9), x -> x.cost(0), x -> x.cost(9), x -> x.sent(0), x -> x.sent(9), x -> x.income(0), x -> x.income(9),
            x -> x.answer(0, 0), x -> x.answer(9, 9), LeftHands::restless, x -> x.rests(0), x -> x.rests(9), x -> x.pieces(0), x -> x.pieces(9),
            LeftHands::clear, LeftHands::thieves, x -> x.meet(0, 1, 0), x -> x.meet(9, 9, 9), x -> x.drawn(0, 0), x -> x.drawn(9, 9),
            x -> x.count(4), x -> x.count(99), LeftHands::status};
        LeftHands x = row(5, 5);
        x.load(1, 0, 1, 0, 0, 0);
        for (Call call : others) {
            x.swap(0, 0);
            call.on(x);
            is(x.status(), -3);
            x.swap(0, 1);
            call.on(x);
            is(x.status(), 0);
        }
    }

    private static void lastCall() {
        says("An object is used for at most 512 calls after it has been made");
        LeftHands x = row(9, 9);
        for (int call = 2; call < 507; call++) x.swap(call % 2, call % 2);
        is(x.count(9), 505);
        is(x.status(), -3);
        is(x.load(1, 0, 1, 0, 0, 0), 0);
        is(x.day(0, 0), 0);
        is(x.draw(0), 1);
    }
}
