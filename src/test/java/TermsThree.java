/** The document's Terms III, sentence by sentence: ways, days, rounds that choke, swaps, porters sent home. */
final class TermsThree extends Checks {
    private TermsThree() { }

    static void ask() {
        next();
        home();
        ways();
        minutes();
        coming();
        roomAtFrom();
        lateComers();
        goingOn();
        waiting();
        fromIsWant();
        late();
        choke();
        chokeNot();
        swaps();
        firstSwaps();
        fewestHome();
    }

    private static void next() {
        says("NEXT of a STAND: its LEFT, if that is a STAND that is there.");
        LeftHands x = new LeftHands();
        x.stand(11, 1, 0);
        for (int s = 1; s < 11; s++) {
            is(x.of(0, 3), NONE);
            x.stand(s, 1, 0);
            is(x.of(s, 3), s);
        }
        is(x.of(0, 3), NONE);
        is(x.of(0, 0), 11);
        x.image(0);
        x.stand(0, 1, 0);
        is(x.of(0, 3), 11);
        is(x.of(11, 3), 0);
        is(x.meet(0, 11, 0), NONE);
        x.back(0);
        is(x.of(0, 3), NONE);
        x.put(0, 0, NONE);
        is(x.of(0, 3), NONE);
        x.put(0, 0, 0);
        is(x.of(0, 3), 0);
        x.put(0, 0, 10);
        is(x.of(0, 3), 10);
    }

    private static void homeIs(LeftHands x, int many, int which, int sets) {
        is(x.home(0), many);
        is(x.home(1), which);
        is(x.home(2), sets);
    }

    private static void home() {
        says("Porters sent HOME (bits of STANDS) are passed by: NEXT is the first that is not HOME (none, if one comes to a STAND for the second time, or to one without LEFT);");
        LeftHands x = row(5, 1, 5);
        x.load(3, 0, 2, 0, 0, 0);
        homeIs(x, 1, 2, 1);
        // Three in a row are passed by, and the last of the STANDS by the first, where they stand in a ring.
        LeftHands y = row(5, 1, 1, 1, 5);
        y.load(3, 0, 4, 0, 0, 0);
        homeIs(y, 3, 14, 1);
        LeftHands w = ring(1, 5, 5, 1);
        w.load(3, 2, 1, 0, 0, 0);
        homeIs(w, 2, 9, 1);
        // 1 and 2 hand on to one another, nobody to 3.
        LeftHands z = row(5, 1, 1, 5);
        z.put(2, 0, 1);
        z.load(3, 0, 3, 0, 0, 0);
        homeIs(z, NONE, NONE, 0);
        // 1 is at his own left.
        z.put(1, 0, 1);
        homeIs(z, NONE, NONE, 0);
        // 1 has nobody at his left; one that is not there.
        z.put(1, 0, NONE);
        homeIs(z, NONE, NONE, 0);
        z.put(1, 0, 4);
        homeIs(z, NONE, NONE, 0);
        // It comes back to where it set out.
        z.put(1, 0, 0);
        homeIs(z, NONE, NONE, 0);
        z.put(1, 0, 3);
        homeIs(z, 1, 2, 1);

        says("LOADS FROM or WANTED at a STAND whose porter is HOME do not take part.");
        x.load(1, 1, 1, 0, 0, 0);
        homeIs(x, NONE, NONE, 0);
        x.drop(1);
        homeIs(x, 1, 2, 1);
        x.load(1, 1, 2, 0, 0, 0);
        homeIs(x, NONE, NONE, 0);
        x.drop(1);
        x.load(1, 0, 1, 0, 0, 0);
        homeIs(x, NONE, NONE, 0);
        // Each of the LOADS, by its FROM and by its WANT.
        int[][] others = {{2, 3}, {1, 2}};
        for (int[] other : others) {
            for (int first = 0; first < 3; first++) {
                LeftHands v = row(5, 5, 1, 5, 5);
                for (int l = 0; l < 3; l++) {
                    if (l == first) v.load(1, other[0], other[1], 0, 0, 0);
                    else v.load(3, 0, 4, 0, 0, 0);
                }
                homeIs(v, NONE, NONE, 0);
                v.drop(first);
                homeIs(v, 1, 4, 1);
            }
        }
    }

    private static void ways() {
        says("The WAY of a LOAD: from FROM by NEXT to WANT; none, if it never comes there.");
        LeftHands x = ring(1, 1, 1, 1, 1, 1, 1, 1, 1, 1, 1, 1);
        x.load(1, 0, 11, 0, 0, 0);
        x.load(1, 11, 10, 0, 0, 0);
        x.load(1, 11, 0, 0, 0, 0);
        x.load(1, 7, 7, 0, 0, 0);
        is(x.way(0, NONE), 11);
        is(x.way(1, NONE), 11);
        is(x.way(2, NONE), 1);
        is(x.way(3, NONE), 0);
        for (int i = 0; i < 12; i++) {
            is(x.way(0, i), i);
            is(x.way(1, i), (11 + i) % 12);
        }
        tells(x, 0, 11, (z, i) -> i == NONE ? NONE : z.way(0, i));
        tells(x, 0, 0, (z, i) -> i == NONE ? NONE : z.way(3, i));
        // A ring that leaves its WANT aside, a row that ends, one that is at its own left.
        x.put(11, 0, 1);
        is(x.way(1, NONE), 10);
        is(x.way(2, NONE), NONE);
        is(x.way(2, 0), NONE);
        x.put(5, 0, NONE);
        is(x.way(0, NONE), NONE);
        is(x.way(0, 0), NONE);
        x.put(5, 0, 5);
        is(x.way(0, NONE), NONE);
        is(x.way(3, NONE), 0);
        is(x.way(3, 0), 7);
        x.put(7, 0, NONE);
        is(x.way(3, NONE), 0);
    }

    private static void minutes() {
        says("A DAY of minutes 0 .. 99.");
        LeftHands x = row(9, 9, 9, 9, 9, 9, 9, 9, 9, 9, 9, 9);
        x.terms(1, 4);
        x.load(1, 0, 11, 89, 0, 0);
        x.load(1, 0, 11, 90, 0, 0);
        x.load(1, 0, 1, 99, 0, 0);
        x.load(1, 0, 2, 99, 0, 0);
        is(x.day(0, 0), 99);
        is(x.day(1, 0), NONE);
        is(x.day(1, 2), 10);
        is(x.day(1, 3), 0);
        is(x.day(2, 0), 99);
        is(x.day(3, 0), NONE);
        is(x.day(3, 2), 1);
        is(x.where(3, 98), NONE);
        is(x.where(3, 99), 1);
        is(x.count(5), 2);
        tells(x, 99, 99, (z, minute) -> z.where(3, minute));
        tells(x, 90, 99, (z, minute) -> z.where(1, minute));
        tells(x, 0, 99, (z, minute) -> z.held(0, minute, 0));
        is(x.held(1, 99, 0), 1);
        is(x.held(10, 99, 1), 1);
    }

    private static void coming() {
        says("In each minute first LOADS with that START come to FROM, by numbers, if its porter can HOLD them");
        // One that comes this minute goes on this minute; what was there ahead of it has room as it was ahead of all.
        LeftHands x = row(3, 9, 9);
        x.load(2, 0, 2, 0, 0, 0);
        x.load(2, 0, 2, 0, 0, 0);
        x.load(3, 0, 2, 1, 0, 0);
        is(x.where(0, 0), 1);
        is(x.where(1, 0), NONE);
        is(x.day(0, 0), 1);
        is(x.where(1, 1), 1);
        is(x.where(2, 1), NONE);
        is(x.where(2, 2), 1);
        is(x.day(2, 0), 3);
        // The lower number has no room, the higher one has.
        LeftHands y = row(9);
        y.stand(NONE, 1, 0);
        y.terms(1, 4);
        y.load(6, 0, 1, 0, 0, 0);
        y.load(4, 0, 1, 0, 0, 0);
        y.load(3, 0, 1, 0, 0, 0);
        is(y.where(0, 0), 0);
        is(y.where(1, 99), NONE);
        is(y.where(2, 0), 0);
        is(y.held(0, 0, 1), 9);
        // First they come, then any go on: what leaves FROM in a minute leaves too late for that minute.
        LeftHands z = row(2, 9);
        z.load(2, 0, 1, 0, 0, 0);
        z.load(2, 0, 1, 0, 0, 0);
        is(z.day(0, 0), 0);
        is(z.day(1, 0), 1);
        // Behind START, not ahead of it.
        LeftHands w = row(9, 9);
        w.load(1, 0, 1, 7, 0, 0);
        is(w.where(0, 6), NONE);
        is(w.day(0, 0), 7);
    }

    private static void roomAtFrom() {
        says(": fewer than HANDS LOADS are there, and their WEIGHTS and its own are not above his STRENGTH.");
        for (int strength = 1; strength <= 9; strength++) {
            LeftHands x = row(strength, 9);
            x.put(0, 0, NONE);
            x.load(strength, 0, 1, 0, 0, 0);
            is(x.where(0, 0), 0);
            if (strength < 9) {
                x.load(strength + 1, 0, 1, 0, 0, 0);
                x.drop(0);
                is(x.where(0, 99), NONE);
                is(x.day(0, 3), 0);
                is(x.day(0, 2), NONE);
                is(x.day(0, 0), NONE);
            }
        }
        // 4 and 5 are 9, 4 and 6 are above.
        LeftHands y = row(9, 9);
        y.put(0, 0, NONE);
        y.load(4, 0, 1, 0, 0, 0);
        y.load(5, 0, 1, 0, 0, 0);
        is(y.held(0, 0, 1), 9);
        is(y.held(0, 0, 0), 2);
        y.drop(1);
        y.load(6, 0, 1, 0, 0, 0);
        is(y.held(0, 0, 1), 4);
        // The same at NEXT.
        for (int hands = 1; hands <= 4; hands++) {
            LeftHands z = row(9, 9, 9);
            z.put(1, 0, NONE);
            z.terms(1, hands);
            for (int l = 0; l < 6; l++) z.load(1, 0, 2, l, 0, 0);
            is(z.held(1, 99, 0), hands);
            is(z.held(0, 99, 0), Math.min(hands, 6 - hands));
        }
        LeftHands w = row(9, 9, 9);
        w.put(1, 0, NONE);
        w.load(4, 0, 2, 0, 0, 0);
        w.load(5, 0, 2, 1, 0, 0);
        is(w.held(1, 99, 1), 9);
        w.put(1, 1, 8);
        is(w.held(1, 99, 1), 4);
        is(w.held(0, 99, 1), 5);
        is(w.day(1, 3), 99);
    }

    private static void lateComers() {
        says("(else in a later minute, ahead of those by their START, lower numbers first)");
        LeftHands x = row(9, 9);
        x.terms(1, 1);
        x.load(1, 0, 1, 1, 0, 0);
        for (int l = 1; l < 4; l++) x.load(1, 0, 1, 0, 0, 0);
        x.load(1, 0, 1, 3, 0, 0);
        // At 1 the late 2 comes ahead of 0, whose START it is; at 2 the late 0 ahead of the late 3.
        int[] due = {2, 0, 1, 3, 4};
        for (int l = 0; l < 5; l++) {
            is(x.day(l, 0), due[l]);
            is(x.day(l, 3), 0);
        }
        // A late one that still has no room lets those by their START come.
        LeftHands y = row(9, 5, 9);
        y.terms(1, 4);
        y.load(5, 0, 2, 0, 0, 0);
        y.load(6, 0, 1, 0, 0, 0);
        y.load(4, 0, 1, 1, 0, 0);
        y.load(3, 0, 1, 2, 0, 0);
        y.put(0, 0, NONE);
        is(y.where(0, 0), 0);
        is(y.where(1, 99), NONE);
        is(y.where(2, 0), NONE);
        is(y.where(2, 1), 0);
        is(y.where(3, 99), NONE);
        // Where it has, it is ahead of them, and they come when there is room again.
        y.put(0, 0, 1);
        is(y.day(0, 0), 1);
        is(y.day(1, 0), 1);
        is(y.day(2, 0), 2);
        is(y.day(3, 0), 2);
        // To the last minute.
        LeftHands z = row(9, 9);
        z.terms(1, 1);
        z.load(1, 0, 1, 98, 0, 0);
        z.load(1, 0, 1, 98, 0, 0);
        z.load(1, 0, 1, 98, 0, 0);
        is(z.day(0, 0), 98);
        is(z.day(1, 0), 99);
        is(z.day(2, 0), NONE);
        is(z.day(2, 2), NONE);
    }

    private static void goingOn() {
        says("Then those that are in a STAND go on one by one, the greatest RANK first (as it is ahead of all of them; of alike ones the lower number), if it is not BARRED: to NEXT,");
        LeftHands x = row(9, 2, 9);
        x.terms(1, 4);
        for (int l = 0; l < 4; l++) x.load(2, 0, 2, 0, l == 1 || l == 3 ? 3 : l, 0);
        int[] byNumber = {1, 2, 3, 4};
        for (int l = 0; l < 4; l++) is(x.day(l, 0), byNumber[l]);
        lawInForce(x, "first haste");
        int[] byRank = {4, 1, 3, 2};
        for (int l = 0; l < 4; l++) is(x.day(l, 0), byRank[l]);
        lawInForce(x, "first haste;bars if load=1 and minute<3");
        int[] barred = {3, 5, 2, 1};
        for (int l = 0; l < 4; l++) is(x.day(l, 0), barred[l]);
        // One by one: a place that one ahead of it left is free, one that is left behind it is not.
        LeftHands y = ring(2, 2, 2, 2);
        y.load(2, 0, 3, 0, 0, 0);
        y.load(2, 1, 0, 0, 0, 0);
        is(y.day(0, 0), 3);
        is(y.day(0, 3), 1);
        is(y.day(1, 0), 2);
        lawInForce(y, "first load");
        is(y.day(0, 0), 2);
        is(y.day(0, 3), 0);
        // RANKS are told ahead of all: by what each waited and where it stood then.
        LeftHands z = ring(9, 2, 9, 2, 9);
        z.load(2, 0, 2, 0, 0, 0);
        z.load(2, 0, 2, 0, 0, 0);
        lawInForce(z, "first waits;bars if load=0 and waits=0");
        is(z.day(1, 0), 1);
        is(z.day(0, 0), 4);
        is(z.day(0, 3), 3);
        // Each goes on but once a minute.
        LeftHands w = row(9, 9, 9, 9);
        w.load(1, 0, 3, 5, 0, 0);
        for (int minute = 5; minute < 7; minute++) is(w.where(0, minute), minute - 4);
        is(w.day(0, 0), 7);

        says("if that is WANT (there it has COME, and is held no more)");
        LeftHands v = row(9, 1, 1);
        v.terms(1, 1);
        v.put(1, 0, NONE);
        v.load(1, 1, 2, 0, 0, 0);
        v.load(9, 0, 1, 3, 0, 0);
        v.load(9, 0, 1, 4, 0, 0);
        is(v.day(1, 0), 3);
        is(v.day(2, 0), 4);
        is(v.held(1, 2, 0), 1);
        is(v.held(1, 99, 0), 1);
        is(v.held(1, 99, 1), 1);
        is(v.where(1, 3), NONE);
        is(v.day(1, 2), NONE);
    }

    private static void waiting() {
        says("or that porter can HOLD it as it is by then; else it WAITS.");
        LeftHands x = row(9, 9, 9);
        x.put(1, 0, NONE);
        x.terms(1, 1);
        x.load(1, 0, 2, 0, 0, 0);
        x.load(1, 0, 2, 10, 0, 0);
        x.load(1, 0, 2, 20, 0, 0);
        is(x.day(0, 2), 1);
        is(x.day(0, 3), 99);
        is(x.day(1, 2), 0);
        is(x.day(1, 3), 90);
        // Not yet at FROM, it does not WAIT.
        is(x.day(2, 2), NONE);
        is(x.day(2, 3), 0);
        // Without NEXT from its START on.
        for (int start : new int[] {0, 1, 98, 99}) {
            LeftHands y = row(9, 9);
            y.load(1, 1, 0, start, 0, 0);
            is(y.day(0, 3), 100 - start);
            is(y.day(0, 2), 1);
        }
        // His own left: he holds it, and would have to HOLD it once more.
        LeftHands z = new LeftHands();
        z.stand(0, 3, 0);
        z.stand(NONE, 3, 0);
        z.load(2, 0, 1, 0, 0, 0);
        is(z.day(0, 3), 100);
        z.put(0, 1, 4);
        is(z.day(0, 3), 0);
        z.terms(1, 1);
        is(z.day(0, 3), 100);
    }

    private static void fromIsWant() {
        says("One whose FROM is WANT has COME in its START, held by nobody.");
        LeftHands x = row(1, 9);
        x.put(0, 0, NONE);
        x.terms(1, 1);
        x.load(1, 0, 1, 0, 0, 0);
        int[] starts = {0, 1, 60, 61, 99};
        for (int start : starts) x.load(9, 0, 0, start, 0, 0);
        lawInForce(x, "bars");
        for (int l = 1; l <= 5; l++) {
            is(x.day(l, 0), starts[l - 1]);
            is(x.day(l, 2), NONE);
            is(x.day(l, 3), 0);
            is(x.where(l, starts[l - 1]), NONE);
            is(x.where(l, 99), NONE);
        }
        is(x.held(0, 0, 0), 1);
        is(x.held(0, 99, 0), 1);
        is(x.held(0, 99, 1), 1);
        is(x.count(4), 3);
        is(x.count(5), 1);
    }

    private static void late() {
        says("LATE is a LOAD by how many minutes beyond NOON it COMES; FAILED, if it has not by minute 99.");
        LeftHands x = row(9, 9, 9);
        x.terms(1, 4);
        x.load(1, 0, 1, 59, 0, 0);
        x.load(1, 0, 1, 60, 0, 0);
        x.load(1, 0, 1, 61, 0, 0);
        x.load(1, 0, 1, 99, 0, 0);
        x.load(1, 0, 2, 99, 0, 0);
        int[] due = {0, 0, 1, 39, NONE};
        for (int l = 0; l < 5; l++) is(x.day(l, 1), due[l]);
        is(x.count(4), 2);
        is(x.count(5), 1);
        x.terms(0, 99);
        for (int l = 0; l < 4; l++) is(x.day(l, 1), 0);
        is(x.day(4, 1), NONE);
        is(x.count(4), 4);
        x.terms(0, 0);
        is(x.day(0, 1), 59);
        is(x.day(3, 1), 99);
        is(x.count(4), 0);
        is(x.count(5), 1);
        x.load(1, 0, 1, 0, 0, 0);
        is(x.day(5, 1), 0);
        is(x.count(4), 1);
    }

    private static void choke() {
        says("It CHOKES at the end: LOADS that FAILED and are held at a STAND, each because the porter at NEXT can't HOLD it as it is then:");
        says("a ROUND of STANDS each of which is NEXT of the one ahead and holds such a LOAD; the one with the lowest STAND.");
        // Alone at his own left, two, as many as there are LOADS.
        for (int n = 1; n <= 8; n++) {
            LeftHands x = new LeftHands();
            for (int s = 0; s < n; s++) x.stand((s + 1) % n, 1, 0);
            x.stand(NONE, 1, 0);
            for (int s = 0; s < n; s++) x.load(1, s, n, 0, 0, 0);
            is(x.choke(), (1 << n) - 1);
            // One of them has room, or hands on to nobody, or is missing.
            x.put(n - 1, 1, 9);
            is(x.choke(), 0);
            x.put(n - 1, 1, 1);
            is(x.choke(), (1 << n) - 1);
            x.put(n - 1, 0, NONE);
            is(x.choke(), 0);
            x.put(n - 1, 0, 0);
            x.drop(n - 1);
            is(x.choke(), 0);
        }
        // HANDS choke as STRENGTH does.
        LeftHands y = ring(9, 9);
        y.stand(NONE, 1, 0);
        for (int l = 0; l < 4; l++) y.load(1, l % 2, 2, 0, 0, 0);
        is(y.choke(), 3);
        y.terms(1, 3);
        is(y.choke(), 0);
        // Two ROUNDS: the one with the lowest STAND.
        LeftHands z = new LeftHands();
        int[] left = {4, 3, NONE, 1, 2, 0};
        for (int s = 0; s < 6; s++) z.stand(left[s], 1, 0);
        z.put(4, 0, 5);
        for (int s : new int[] {5, 4, 3, 1, 0}) z.load(1, s, 2, 0, 0, 0);
        is(z.choke(), 1 | 16 | 32);
        z.put(0, 0, NONE);
        is(z.choke(), 2 | 8);
        z.put(3, 0, NONE);
        is(z.choke(), 0);
        // One that is held ahead of a ROUND is no part of it.
        LeftHands w = row(1, 1, 1, 1);
        w.put(2, 0, 1);
        for (int s = 0; s < 3; s++) w.load(1, s, 3, 0, 0, 0);
        is(w.choke(), 6);
        w.put(0, 0, 2);
        is(w.choke(), 6);
    }

    private static void chokeNot() {
        says("LOADS that FAILED and are held at a STAND, each because the porter at NEXT can't HOLD it as it is then:");
        is(new LeftHands().choke(), 0);
        is(ring(1, 1).choke(), 0);
        // All COME in the end.
        LeftHands x = ring(1, 1, 1);
        x.load(1, 0, 2, 0, 0, 0);
        x.load(1, 1, 0, 0, 0, 0);
        is(x.choke(), 0);
        // Not held by any: they never came to FROM.
        LeftHands y = ring(1, 1);
        y.stand(NONE, 1, 0);
        y.load(2, 0, 2, 0, 0, 0);
        y.load(2, 1, 2, 0, 0, 0);
        is(y.choke(), 0);
        // BARRED, all or one.
        LeftHands z = ring(1, 1);
        z.stand(NONE, 1, 0);
        z.load(1, 0, 2, 0, 0, 0);
        z.load(1, 1, 2, 0, 0, 0);
        is(z.choke(), 3);
        lawInForce(z, "bars");
        is(z.choke(), 0);
        lawInForce(z, "bars if load=1");
        is(z.choke(), 0);
        lawInForce(z, "bars if minute<99");
        is(z.choke(), 3);
        // One that came to 1 at 99, whose WANT is next: it is held by no porter who can't HOLD it.
        LeftHands w = row(1, 1, 1);
        w.put(2, 0, 1);
        w.stand(NONE, 1, 0);
        w.load(1, 0, 2, 99, 0, 0);
        w.load(1, 2, 3, 99, 0, 0);
        is(w.where(0, 99), 1);
        is(w.where(1, 99), 2);
        is(w.choke(), 0);
        // It is told of the end: a jam that comes at 99 chokes, too.
        LeftHands v = ring(1, 1);
        v.stand(NONE, 1, 0);
        v.load(1, 0, 2, 99, 0, 0);
        v.load(1, 1, 2, 99, 0, 0);
        is(v.choke(), 3);
        v.drop(1);
        is(v.choke(), 0);
    }

    private static void swapsAre(LeftHands x, int loads, int... due) {
        for (int what = 0; what < 6; what++) is(x.swaps(loads, what), due[what]);
        is(x.swaps(loads, -1), NONE);
        is(x.swaps(loads, 6), NONE);
    }

    private static void swaps() {
        says("SWAPS: the porters (STRENGTH, FEE) of two STANDS change places.");
        LeftHands x = row(1, 2, 3);
        for (int s = 0; s < 3; s++) x.put(s, 2, 10 + s);
        accepted(x, x.swap(2, 0), 0);
        int[] strength = {3, 2, 1};
        int[] fee = {12, 11, 10};
        int[] left = {1, 2, NONE};
        for (int s = 0; s < 3; s++) {
            is(x.of(s, 1), strength[s]);
            is(x.of(s, 2), fee[s]);
            is(x.of(s, 0), left[s]);
        }
        accepted(x, x.swap(0, 2), 0);
        is(x.of(0, 1), 1);
        // The FEE goes with its porter, which a law may tell by: none of STRENGTH may change places here.
        LeftHands w = row(5, 5, 5);
        w.put(2, 2, 30);
        w.load(1, 0, 1, 0, 0, 0);
        lawInForce(w, "bars if asks<20");
        swapsAre(w, 1, 1, 0, 2, NONE, NONE, 1);

        says("FEWEST SWAPS, one behind the other, 0 .. 2, by which all of some LOADS (bits) COME by NOON;");
        swapsAre(new LeftHands(), 0, 0, NONE, NONE, NONE, NONE, 1);
        is(new LeftHands().swaps(1, 0), NONE);
        is(new LeftHands().swaps(1, 5), NONE);
        LeftHands one = row(5);
        one.load(6, 0, 0, 61, 0, 0);
        swapsAre(one, 0, 0, NONE, NONE, NONE, NONE, 1);
        swapsAre(one, 1, NONE, NONE, NONE, NONE, NONE, 0);
        one.terms(0, 61);
        swapsAre(one, 1, 0, NONE, NONE, NONE, NONE, 1);
        // Weak porters on the way, as many strong ones beside it: 0, 1, 2 SWAPS, but not 3.
        for (int weak = 0; weak <= 3; weak++) {
            LeftHands y = new LeftHands();
            for (int s = 0; s < 4; s++) y.stand(s < 3 ? s + 1 : NONE, s < weak ? 1 : 5, 0);
            for (int s = 0; s < weak; s++) y.stand(NONE, 5, 0);
            y.put(3, 1, 1);
            y.load(5, 0, 3, 0, 0, 0);
            is(y.swaps(1, 0), weak < 3 ? weak : NONE);
            is(y.swaps(1, 1), weak == 0 || weak == 3 ? NONE : 0);
            is(y.swaps(1, 3), weak == 2 ? 1 : NONE);
            // One behind the other: each of two weak ones by either strong one, in either order.
            is(y.swaps(1, 5), new int[] {1, 1, 4, 0}[weak]);
        }
        // By NOON, not a minute later; only some LOADS are told of, the others may FAIL.
        LeftHands z = row(9, 1, 9, 9);
        z.load(2, 0, 3, 10, 0, 0);
        z.load(9, 1, 1, 99, 0, 0);
        swapsAre(z, 1, 1, 1, 3, NONE, NONE, 1);
        swapsAre(z, 2, NONE, NONE, NONE, NONE, NONE, 0);
        swapsAre(z, 3, NONE, NONE, NONE, NONE, NONE, 0);
        z.terms(0, 12);
        swapsAre(z, 1, 1, 1, 3, NONE, NONE, 1);
        z.terms(0, 11);
        swapsAre(z, 1, NONE, NONE, NONE, NONE, NONE, 0);
        z.terms(0, 99);
        swapsAre(z, 2, 0, NONE, NONE, NONE, NONE, 1);
        swapsAre(z, 3, 1, 1, 3, NONE, NONE, 1);
    }

    private static void firstSwaps() {
        says("the first as pairs (lower STAND ahead, then the other one).");
        LeftHands x = row(9, 1, 9, 9, 9);
        x.put(2, 0, NONE);
        x.load(2, 0, 2, 10, 0, 0);
        // With 2, with 3, with 4; with 0 it helps nothing.
        swapsAre(x, 1, 1, 1, 2, NONE, NONE, 3);
        x.terms(0, 11);
        swapsAre(x, 1, 1, 1, 2, NONE, NONE, 3);
        x.terms(0, 10);
        swapsAre(x, 1, NONE, NONE, NONE, NONE, NONE, 0);
        // From minute 0 on, by NOON 0.
        LeftHands n = row(5, 5, 5);
        n.load(1, 0, 1, 0, 0, 0);
        n.load(1, 0, 2, 0, 0, 0);
        n.terms(0, 0);
        swapsAre(n, 1, 0, NONE, NONE, NONE, NONE, 1);
        swapsAre(n, 2, NONE, NONE, NONE, NONE, NONE, 0);
        n.terms(0, 1);
        swapsAre(n, 3, 0, NONE, NONE, NONE, NONE, 1);
        // In minute 1 nothing but that one COMES, and the other one goes on behind it.
        LeftHands c = row(9, 9, 9, 9);
        c.terms(1, 1);
        c.load(1, 0, 3, 0, 0, 0);
        c.load(1, 1, 3, 0, 0, 0);
        lawInForce(c, "first 1 if load=1 and stand=1");
        is(c.day(1, 0), 1);
        is(c.day(0, 3), 1);
        is(c.day(0, 0), 3);
        swapsAre(c, 3, 0, NONE, NONE, NONE, NONE, 1);
        homeIs(c, 0, 0, 1);
        // Three that turn, either way round: three rows of pairs each.
        int[][] turning = {{5, 4, 6}, {5, 6, 4}};
        for (int[] t : turning) {
            LeftHands y = row(t[0], t[1], t[2]);
            y.stand(NONE, 1, 0);
            for (int s = 0; s < 3; s++) y.put(s, 0, 3);
            y.load(6, 0, 3, 0, 0, 0);
            y.load(t[1] == 4 ? 5 : 4, 1, 3, 0, 0, 0);
            y.load(t[1] == 4 ? 4 : 5, 2, 3, 0, 0, 0);
            swapsAre(y, 7, 2, 0, 1, t[1] == 4 ? 0 : 1, 2, 3);
        }
        // The last pair of all.
        LeftHands y = new LeftHands();
        for (int s = 0; s < 12; s++) y.stand(s == 10 ? 0 : NONE, s == 11 ? 9 : 1, 0);
        y.load(9, 10, 0, 0, 0, 0);
        swapsAre(y, 1, 1, 10, 11, NONE, NONE, 1);
        // Two at the end: 9 and 8 of strength, which only 10 and 11 have.
        LeftHands z = new LeftHands();
        for (int s = 0; s < 12; s++) z.stand(s == 8 || s == 9 ? 0 : NONE, s == 10 ? 8 : s == 11 ? 9 : 1, 0);
        z.load(9, 8, 0, 0, 0, 0);
        z.load(8, 9, 0, 0, 0, 0);
        swapsAre(z, 3, 2, 8, 11, 9, 10, 2);
        swapsAre(z, 2, 1, 9, 10, NONE, NONE, 2);
        swapsAre(z, 1, 1, 8, 11, NONE, NONE, 1);
        swapsAre(z, 0, 0, NONE, NONE, NONE, NONE, 1);
        swapsAre(z, 4, NONE, NONE, NONE, NONE, NONE, NONE);
        swapsAre(z, -1, NONE, NONE, NONE, NONE, NONE, NONE);
        // Nothing has changed places by being asked for.
        is(z.of(8, 1), 1);
        is(z.of(11, 1), 9);
    }

    private static void fewestHome() {
        says("FEWEST HOME, 0 .. 3 porters, by which all LOADS of those that take part COME by minute 99, and none is left out (FROM, WANT not HOME); the lowest as bits.");
        homeIs(new LeftHands(), 0, 0, 1);
        homeIs(row(5, 5), 0, 0, 1);
        for (int weak = 0; weak <= 4; weak++) {
            LeftHands x = new LeftHands();
            for (int s = 0; s <= weak + 1; s++) x.stand(s + 1, s == 0 || s > weak ? 5 : 1, 0);
            x.load(5, 0, weak + 1, 0, 0, 0);
            homeIs(x, weak < 4 ? weak : NONE, weak < 4 ? (2 << weak) - 2 : NONE, weak < 4 ? 1 : 0);
        }
        // By minute 99, whatever NOON is; any one of those between will do, the lowest is told.
        LeftHands y = row(5, 5, 5, 5);
        y.terms(0, 0);
        y.load(1, 0, 3, 97, 0, 0);
        homeIs(y, 0, 0, 1);
        y.drop(0);
        y.load(1, 0, 3, 98, 0, 0);
        homeIs(y, 1, 2, 2);
        y.drop(0);
        y.load(1, 0, 3, 99, 0, 0);
        homeIs(y, 2, 6, 1);
        // FROM, WANT of any LOAD stay.
        y.load(1, 2, 2, 0, 0, 0);
        homeIs(y, NONE, NONE, 0);
        // The lowest as bits is not the one with the lowest STAND.
        LeftHands z = row(5, 5, 5, 5, 5, 5);
        z.load(1, 0, 5, 97, 0, 0);
        homeIs(z, 2, 6, 6);
        z.load(1, 1, 1, 0, 0, 0);
        homeIs(z, 2, 12, 3);
        is(z.home(3), NONE);
        is(z.home(-1), NONE);
        // The STAND with the highest number.
        LeftHands w = new LeftHands();
        for (int s = 0; s < 12; s++) w.stand(s == 0 ? 11 : s == 11 ? 1 : NONE, s == 11 ? 1 : 5, 0);
        w.load(5, 0, 1, 0, 0, 0);
        homeIs(w, 1, 1 << 11, 1);
    }
}
