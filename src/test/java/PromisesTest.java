/** A test for each promise of the document: ordinary inputs, edges, wrong inputs. */
public final class PromisesTest extends Checks {
    private PromisesTest() { }

    public static void main(String[] args) {
        standsAndLoads();
        tapeAndLaws();
        whatLawsTell();
        ways();
        days();
        searches();
        fees();
        rest();
        end();
    }

    private static void standsAndLoads() {
        newObject();
        stand();
        putChanges();
        of();
        load();
        fact();
        drop();
        terms();
    }

    private static void newObject() {
        promise(1);
        LeftHands x = new LeftHands();
        is(NONE, -1);
        int[] due = {0, 0, 0, 0, 0, 0, 0, 0, 0, 0, 0, 0, -1, 60, 2, -1, -1};
        for (int k = 0; k < due.length; k++) is(x.count(k), due[k]);
        is(x.status(), 0);
        is(x.fault(), NONE);
        is(x.dropped(), 0);
        is(x.choke(), 0);
        is(x.thieves(), 0);
        is(x.restless(), NONE);
        is(x.rests(NONE), 1);
        is(x.swaps(0, 0), 0);
        is(x.home(0), 0);
        is(x.home(1), 0);
        is(x.home(2), 1);
        is(x.draw(7), 0);
        is(x.drawn(0, 0), NONE);
    }

    private static void stand() {
        promise(2);
        LeftHands x = new LeftHands();
        is(x.stand(-1, 1, 0), 0);
        is(x.stand(11, 9, 99), 1);
        is(x.stand(2, 5, 5), 2);
        is(x.of(1, 0), 11);
        is(x.of(1, 1), 9);
        is(x.of(1, 2), 99);
        refused(x, x.stand(-2, 1, 0), -1);
        refused(x, x.stand(12, 1, 0), -1);
        refused(x, x.stand(0, 0, 0), -1);
        refused(x, x.stand(0, 10, 0), -1);
        refused(x, x.stand(0, 1, -1), -1);
        refused(x, x.stand(0, 1, 100), -1);
        is(x.count(0), 3);
        for (int i = 3; i < 12; i++) is(x.stand(0, 1, 0), i);
        refused(x, x.stand(0, 1, 0), -5);
        refused(x, x.stand(0, 10, 0), -1);
        is(x.count(0), 12);
    }

    private static void putChanges() {
        promise(3);
        LeftHands x = ring(3, 4);
        is(x.put(0, 0, -1), 1);
        is(x.status(), 0);
        is(x.put(0, 0, 11), -1);
        is(x.status(), 0);
        is(x.of(0, 0), 11);
        is(x.put(0, 1, 9), 3);
        is(x.of(0, 1), 9);
        is(x.put(1, 2, 99), 2);
        is(x.put(1, 2, 0), 99);
        is(x.of(1, 2), 0);
        is(x.of(1, 1), 4);
        refused(x, x.put(0, 0, -2), -1);
        refused(x, x.put(0, 0, 12), -1);
        refused(x, x.put(0, 1, 0), -1);
        refused(x, x.put(0, 1, 10), -1);
        refused(x, x.put(0, 2, -1), -1);
        refused(x, x.put(0, 2, 100), -1);
        refused(x, x.put(0, 3, 1), -1);
        refused(x, x.put(0, -1, 1), -1);
        refused(x, x.put(5, 1, 10), -1);
        refused(x, x.put(2, 1, 9), -2);
        refused(x, x.put(-1, 1, 9), -2);
        refused(x, x.put(Integer.MIN_VALUE, 0, 0), -2);
        is(x.of(0, 1), 9);
    }

    private static void of() {
        promise(4);
        LeftHands x = new LeftHands();
        x.stand(1, 3, 7);
        is(x.of(0, 0), 1);
        is(x.of(0, 3), NONE);
        x.stand(-1, 4, 8);
        is(x.of(0, 3), 1);
        is(x.of(1, 0), NONE);
        is(x.of(1, 3), NONE);
        x.stand(2, 5, 9);
        is(x.of(2, 3), 2);
        is(x.of(2, 1), 5);
        is(x.of(2, 2), 9);
        is(x.of(2, 4), NONE);
        is(x.of(2, -1), NONE);
        is(x.of(3, 1), NONE);
        is(x.of(-1, 1), NONE);
        is(x.status(), 0);
    }

    private static void load() {
        promise(5);
        LeftHands x = ring(3, 3);
        x.stand(0, 0, 0);
        is(x.load(1, 0, 1, 0, 0, 0), 0);
        is(x.status(), 0);
        is(x.load(9, 1, 1, 99, 9, 9999), 1);
        refused(x, x.load(0, 0, 1, 0, 0, 0), -1);
        refused(x, x.load(10, 0, 1, 0, 0, 0), -1);
        refused(x, x.load(1, 0, 1, -1, 0, 0), -1);
        refused(x, x.load(1, 0, 1, 100, 0, 0), -1);
        refused(x, x.load(1, 0, 1, 0, -1, 0), -1);
        refused(x, x.load(1, 0, 1, 0, 10, 0), -1);
        refused(x, x.load(1, 0, 1, 0, 0, -1), -1);
        refused(x, x.load(1, 0, 1, 0, 0, 10000), -1);
        refused(x, x.load(1, 2, 1, 0, 0, 0), -2);
        refused(x, x.load(1, 0, 2, 0, 0, 0), -2);
        refused(x, x.load(1, -1, 0, 0, 0, 0), -2);
        refused(x, x.load(1, 0, 99, 0, 0, 0), -2);
        refused(x, x.load(0, 5, 5, 0, 0, 0), -1);
        is(x.count(1), 2);
        for (int i = 2; i < 8; i++) is(x.load(1, 0, 1, 0, 0, 0), i);
        refused(x, x.load(1, 0, 1, 0, 0, 0), -5);
        refused(x, x.load(1, 0, 2, 0, 0, 0), -2);
        refused(x, x.load(1, 0, 2, 0, 0, -1), -1);
        is(x.count(1), 8);
    }

    private static void fact() {
        promise(6);
        LeftHands x = ring(3, 3, 3);
        x.load(4, 1, 2, 50, 6, 700);
        int[] due = {4, 1, 2, 50, 6, 700};
        for (int k = 0; k < 6; k++) is(x.fact(0, k), due[k]);
        is(x.fact(0, 6), NONE);
        is(x.fact(0, -1), NONE);
        is(x.fact(1, 0), NONE);
        is(x.fact(-1, 0), NONE);
    }

    private static void drop() {
        promise(7);
        LeftHands x = ring(3, 3);
        for (int i = 1; i <= 4; i++) x.load(i, 0, 1, i, i, i * 10);
        is(x.drop(1), 3);
        is(x.fact(0, 0), 1);
        is(x.fact(1, 0), 3);
        is(x.fact(2, 5), 40);
        is(x.fact(3, 0), NONE);
        refused(x, x.drop(3), -2);
        refused(x, x.drop(-1), -2);
        is(x.drop(2), 2);
        is(x.status(), 0);
        is(x.drop(0), 1);
        is(x.fact(0, 3), 3);
        is(x.drop(0), 0);
        refused(x, x.drop(0), -2);
    }

    private static void terms() {
        promise(8);
        LeftHands x = new LeftHands();
        is(x.terms(0, 0), 60);
        is(x.terms(0, 99), 0);
        is(x.terms(1, 4), 2);
        is(x.terms(1, 1), 4);
        is(x.count(13), 99);
        is(x.count(14), 1);
        refused(x, x.terms(0, -1), -1);
        refused(x, x.terms(0, 100), -1);
        refused(x, x.terms(1, 0), -1);
        refused(x, x.terms(1, 5), -1);
        refused(x, x.terms(2, 1), -1);
        refused(x, x.terms(-1, 1), -1);
        is(x.count(13), 99);
    }

    private static void tapeAndLaws() {
        promise(9);
        LeftHands x = new LeftHands();
        is(x.feed(0x01020304, 0x05060708, -1, 0, 0), 20);
        is(x.count(6), 20);
        for (int i = 2; i <= 20; i++) is(x.feed(0, 0, 0, 0, 0), i * 20);
        is(x.feed(0, 0, 0, 0, 0), NONE);
        is(x.end(381), 381);
        is(x.feed(0, 0, 0, 0, 0), NONE);
        is(x.count(6), 381);
        is(x.end(380), 380);
        is(x.feed(0, 0, 0, 0, 0), 400);
        LeftHands y = ring(3, 3, 3);
        y.feed(0x09020104, 0x05060708, 0, 0, 0);
        y.end(6);
        is(y.row(), 1);
        for (int k = 0; k < 6; k++) is(y.fact(0, k), new int[] {9, 2, 1, 4, 5, 6}[k]);

        promise(10);
        is(x.end(401), NONE);
        is(x.end(-1), NONE);
        is(x.count(6), 400);
        is(x.end(400), 400);
        is(x.end(13), 13);
        is(x.end(14), NONE);
        is(x.end(0), 0);
        is(x.end(0), 0);
        is(x.count(6), 0);

        rowOfLoads();
        lawsTaken();
        faults();
        force();
    }

    private static void rowOfLoads() {
        promise(11);
        LeftHands x = ring(3, 3);
        put(x, 1, 0, 1, 5, 3, 200, 9, 1, 0, 99, 9, 255);
        is(x.row(), 2);
        is(x.count(6), 0);
        is(x.fact(0, 5), 200);
        is(x.fact(1, 3), 99);
        is(x.dropped(), 0);
        refused(x, x.row(), -6);
        put(x, 0, 0, 1, 5, 3, 200, 1, 2, 0, 0, 0, 0, 1, 0, 0, 100, 0, 0, 1, 0, 0, 0, 10, 0, 2, 0, 1, 0, 0, 7, 1, 0, 1, 0, 0);
        is(x.row(), 1);
        is(x.status(), 0);
        is(x.fact(2, 0), 2);

        promise(12);
        is(x.dropped(), 5);
        refused(x, x.row(), -6);
        is(x.dropped(), 5);
        for (int i = 0; i < 7; i++) put(x, 1, 0, 1, 0, 0, i);
        is(x.row(), 5);
        is(x.dropped(), 2);
        is(x.fact(7, 5), 4);
        put(x, 0);
        is(x.row(), 0);
        is(x.status(), 0);
        is(x.dropped(), 1);
        x.drop(0);
        put(x, 1, 0, 1, 0, 0, 9);
        is(x.row(), 1);
        is(x.dropped(), 0);
    }

    private static void lawsTaken() {
        promise(13);
        LeftHands x = new LeftHands();
        for (int i = 0; i < 6; i++) is(law(x, "fee " + i), i);
        is(x.count(2), 6);
        is(x.count(6), 0);
        put(x, Feeder.bytesOf("nonsense"));
        refused(x, x.law(), -5);
        is(x.count(6), 0);
        is(x.fault(), NONE);
        x = new LeftHands();
        refused(x, law(x, "bars if"), -6);
        is(x.count(6), 0);
        is(x.count(2), 0);
        is(x.fault(), 7);
        refused(x, x.law(), -6);
        is(x.fault(), 0);
        refused(x, law(x, "    "), -6);
        is(x.fault(), 4);
        is(law(x, "  bars  "), 0);
        is(x.status(), 0);
    }

    private static void faults() {
        promise(14);
        String[] good = {"bars", "fee 1000", "fee 0001000", "first load", "first1", "first[[[[[[[[1]]]]]]]]",
            "bars if ((((((((1=1))))))))", "bars if (([[(1)]]=1))".replace("(1)", "[1]"), "bars if not not not 1<2",
            "fee load+weight-haste*stand/left+minute-waits*strength+asks", "bars;bars;fee 1;first 2 if 1>2",
            "bars;bars;bars;bars;bars;bars;bars;bars;bars;bars;bars;bars", "bars if 1=1or 2=2and(3=3)",
            "bars if not (1=1 and 2<3) or [1+2]*3>4"};
        for (String text : good) is(faultOf(text), NONE);
        is(faultOf(""), 0);
        is(faultOf("   "), 3);
        is(faultOf("first"), 5);
        is(faultOf("first  "), 7);
        is(faultOf(" firsts 1"), 1);
        is(faultOf("Fee 1"), 0);
        is(faultOf("fee 1 2"), 6);
        is(faultOf("fee 1001"), 4);
        is(faultOf("fee 99999999999999999999999"), 4);
        is(faultOf("fee -1"), 4);
        is(faultOf("fee 12e"), 6);
        is(faultOf("fee loads"), 4);
        is(faultOf("fee loadz"), 4);
        is(faultOf("fee aasks"), 4);
        is(faultOf("fee (1)"), 4);
        is(faultOf("fee 1\t"), 5);
        is(faultOf("fee 1\u00e9"), 5);
        is(faultOf("bars 1"), 5);
        is(faultOf("bars if 1"), 9);
        is(faultOf("bars if 1 < 2 < 3"), 14);
        is(faultOf("bars if (1)"), 10);
        is(faultOf("bars if [1=1]"), 10);
        is(faultOf("bars if 1 = (2)"), 12);
        is(faultOf("bars if 1=1 and"), 15);
        is(faultOf("bars if (1=1"), 12);
        is(faultOf("bars if 1=1)"), 11);
        is(faultOf("bars if not"), 11);
        is(faultOf("bars if 1=1 if 2=2"), 12);
        is(faultOf("fee [1"), 6);
        is(faultOf("fee [1)"), 6);
        is(faultOf("bars;"), 5);
        is(faultOf("bars;;"), 5);
        is(faultOf("bars if [[[[[[[[[1]]]]]]]]]=1"), 16);
        is(faultOf("bars if ((((((((([1]=1"), 16);
        is(faultOf("bars if (((([[[[[1"), 16);
        is(faultOf("bars if (((([[[[1]]]]=1))))"), NONE);
        is(faultOf("bars;bars;bars;bars;bars;bars;bars;bars;bars;bars;bars;bars;bars"), 60);
        is(faultOf("bars;bars;bars;bars;bars;bars;bars;bars;bars;bars;bars;bars;"), 60);
        StringBuilder sum = new StringBuilder("fee 1");
        for (int i = 1; i < 50; i++) sum.append("+1");
        is(faultOf(sum.toString()), NONE);
        is(faultOf(sum + "+1"), 104);
        is(faultOf(sum + "; fee load"), 109);
        is(faultOf(sum + "; bars"), NONE);
        is(faultOf(sum + "+[1"), 105);
        LeftHands x = new LeftHands();
        is(law(x, "bars if waits"), -6);
        is(x.fault(), 13);
        is(law(x, "bars"), 0);
        is(x.fault(), NONE);
        is(law(x, "x"), -6);
        is(x.fault(), 0);
        put(x, 1, 2, 3);
        x.row();
        is(x.fault(), 0);
    }

    private static void force() {
        promise(15);
        LeftHands x = new LeftHands();
        is(x.force(NONE), NONE);
        is(x.status(), 0);
        refused(x, x.force(0), -2);
        law(x, "bars");
        law(x, "fee 5");
        is(x.force(1), NONE);
        is(x.force(0), 1);
        is(x.count(12), 0);
        refused(x, x.force(2), -2);
        refused(x, x.force(-2), -2);
        refused(x, x.force(6), -2);
        is(x.count(12), 0);
        is(x.force(NONE), 0);
        is(x.status(), 0);
    }

    // Terms II, as promise 15 puts laws in force: told by fees, which cost() shows.
    private static void whatLawsTell() {
        is(costBy("first 5"), 7);
        is(costBy("fee 5"), 5);
        is(costBy("fee 1+2*3-4/2"), 5);
        is(costBy("fee [1+2]*3"), 9);
        is(costBy("fee 7/2*2"), 6);
        is(costBy("fee 20-[0-7]/2"), 23);
        is(costBy("fee 10-3-2"), 5);
        is(costBy("fee 100/10/5"), 2);
        is(costBy("fee 1000"), 999);
        is(costBy("fee 998+1"), 999);
        is(costBy("fee 0-5"), 0);
        is(costBy("fee 10*load+weight"), 3);
        is(costBy("fee haste"), 6);
        is(costBy("fee 10+stand"), 10);
        is(costBy("fee left"), 1);
        is(costBy("fee minute+waits"), 0);
        is(costBy("fee strength"), 4);
        is(costBy("fee asks*asks"), 49);
        is(costBy("fee 1;fee 2;fee 3 if 1=2"), 2);
        is(costBy("fee 1 if asks=7;fee 2 if asks>7;fee 3 if asks<7"), 1);
        is(costBy("fee 1;fee 2/0"), 1);
        is(costBy("fee 2/[1-1]"), 7);
        is(costBy("fee 1;fee 2 if 1/0=1"), 1);
        is(costBy("fee 1;fee 2 if not 1/0=1"), 1);
        is(costBy("fee 1;fee 2 if 1=1 or 1/0=1"), 2);
        is(costBy("fee 1;fee 2 if 1/0=1 or 1=1"), 1);
        is(costBy("fee 1;fee 2 if 1=2 or 1/0=1"), 1);
        is(costBy("fee 1;fee 2 if not (1=2 and 1/0=1)"), 2);
        is(costBy("fee 1;fee 2 if not (1=1 and 1/0=1)"), 1);
        is(costBy("fee 1;fee 2 if 1=2 and 1/0=1 or 1=1"), 2);
        is(costBy("fee 1;fee 2 if 1=1 or 1=2 and 1=2"), 2);
        is(costBy("fee 1;fee 2 if (1=1 or 1=2) and 1=2"), 1);
        is(costBy("fee 1;fee 2 if not 1=1 or 1=1"), 2);
        is(costBy("fee 1;fee 2 if not 3=3"), 1);
        is(costBy("fee 1;fee 2 if not not 3=3"), 2);
        is(costBy("fee 1;fee 2 if not 3=4"), 2);
        is(costBy("fee 1;fee 2 if 1000*1000*1000=1000*1000*1000"), 2);
        is(costBy("fee 1;fee 2 if 1000*1000*1000+1>0"), 1);
        is(costBy("fee 1;fee 2 if 0-1000*1000*1000<0"), 2);
        is(costBy("fee 1;fee 2 if 0-1000*1000*1000-1<0"), 1);
        is(costBy("fee 5;fee 1000*1000*1000*2/1000"), 5);
        is(costBy("bars;first 2/0"), 7);
    }

    private static void ways() {
        promise(16);
        LeftHands x = ring(3, 3, 3, 3);
        x.put(3, 0, 1);
        x.load(1, 0, 3, 0, 0, 0);
        x.load(1, 2, 2, 0, 0, 0);
        x.load(1, 2, 0, 0, 0, 0);
        is(x.way(0, NONE), 3);
        for (int i = 0; i < 4; i++) is(x.way(0, i), i);
        is(x.way(0, 4), NONE);
        is(x.way(0, -2), NONE);
        is(x.way(1, NONE), 0);
        is(x.way(1, 0), 2);
        is(x.way(1, 1), NONE);
        is(x.way(2, NONE), NONE);
        is(x.way(2, 0), NONE);
        is(x.way(3, NONE), NONE);
        is(x.way(-1, NONE), NONE);
        LeftHands whole = ring(1, 1, 1, 1, 1, 1, 1, 1, 1, 1, 1, 1);
        whole.load(1, 5, 4, 0, 0, 0);
        is(whole.way(0, NONE), 11);
        is(whole.way(0, 11), 4);
        is(whole.way(0, 7), 0);

        promise(17);
        is(x.enter(3, 0), 15);
        is(x.enter(0, 0), 1);
        is(x.enter(3, 4), 8);
        is(x.enter(3, 1), 14);
        is(x.enter(3, 8), 0);
        is(x.enter(1, 15), 0);
        is(x.enter(4, 0), NONE);
        is(x.enter(-1, 0), NONE);
        is(x.enter(0, 16), NONE);
        is(x.enter(0, -1), NONE);
        is(whole.enter(4, 0), 4095);
        is(whole.enter(4, 1 << 3), 1 << 4);
        is(whole.enter(4, 1 << 5), 4095 - (1 << 5));
    }

    private static void days() {
        promise(18);
        // Two at 0, strength for one at a time at 1: the lower number first, the other behind it.
        LeftHands x = ring(9, 2, 9);
        x.load(2, 0, 2, 0, 0, 0);
        x.load(2, 0, 2, 0, 0, 0);
        is(x.day(0, 0), 1);
        is(x.day(1, 0), 2);
        is(x.day(0, 3), 0);
        is(x.day(1, 3), 1);
        is(x.day(1, 2), NONE);
        x.terms(0, 1);
        is(x.day(0, 1), 0);
        is(x.day(1, 1), 1);
        is(x.count(4), 1);
        is(x.day(0, 4), NONE);
        is(x.day(0, -1), NONE);
        is(x.day(2, 0), NONE);
        is(x.day(-1, 3), NONE);
        // HANDS: a third waits outside, ahead of one that starts in that minute, and that is no WAITING.
        LeftHands y = ring(9, 9, 9);
        y.terms(1, 1);
        y.load(1, 0, 1, 1, 0, 0);
        y.load(1, 0, 1, 0, 0, 0);
        y.load(1, 0, 1, 0, 0, 0);
        is(y.day(1, 0), 0);
        is(y.day(2, 0), 1);
        is(y.day(0, 0), 2);
        is(y.day(0, 3), 0);
        is(y.where(2, 0), NONE);
        is(y.count(4), 3);
        // FROM is WANT: COME in its START, held by nobody, whatever it weighs.
        LeftHands z = new LeftHands();
        z.stand(0, 1, 0);
        z.stand(-1, 2, 0);
        z.load(9, 0, 0, 99, 0, 0);
        z.load(2, 0, 1, 0, 0, 0);
        z.load(1, 0, 1, 0, 0, 0);
        z.load(2, 1, 0, 3, 0, 0);
        is(z.day(0, 0), 99);
        is(z.day(0, 1), 39);
        is(z.day(0, 3), 0);
        is(z.where(0, 99), NONE);
        is(z.day(1, 2), NONE);
        is(z.day(1, 0), NONE);
        is(z.day(1, 3), 0);
        is(z.day(2, 2), 0);
        is(z.day(2, 3), 100);
        is(z.day(2, 1), NONE);
        is(z.day(3, 2), 1);
        is(z.day(3, 3), 97);
        is(z.count(5), 3);
        // WANT need not hold it.
        LeftHands w = new LeftHands();
        w.stand(1, 9, 0);
        w.stand(-1, 1, 0);
        w.load(9, 0, 1, 98, 0, 0);
        is(w.day(0, 0), 98);
        is(w.day(0, 1), 38);
        ranksAndBars();
        whereAndHeld();
        choke();
    }

    private static void ranksAndBars() {
        // The greatest RANK first; of alike ones the lower number.
        LeftHands x = ringWithLaw("first haste", 9, 2, 9);
        x.load(2, 0, 2, 0, 1, 0);
        x.load(2, 0, 2, 0, 5, 0);
        is(x.day(1, 0), 1);
        is(x.day(0, 0), 2);
        x.force(NONE);
        is(x.day(0, 0), 1);
        // BARRED until it has waited twice there; it waits anew at the next stand.
        LeftHands y = ringWithLaw("bars if waits<2", 9, 9, 9);
        y.load(1, 0, 2, 3, 0, 0);
        is(y.day(0, 0), 3 + 2 + 3);
        is(y.day(0, 3), 4);
        // The last that HOLDS tells the RANK, whichever other is broken.
        LeftHands z = ringWithLaw("first 0-haste;first haste/[haste-5]", 9, 2, 9);
        z.load(2, 0, 2, 0, 4, 0);
        z.load(2, 0, 2, 0, 5, 0);
        is(z.day(0, 0), 1);
        // Ranks are as they are ahead of all; places as they are by then.
        LeftHands w = ringWithLaw("first stand", 2, 2, 2, 2);
        w.load(2, 0, 3, 0, 0, 0);
        w.load(2, 1, 0, 0, 0, 0);
        is(w.day(0, 0), 2);
        is(w.day(1, 0), 2);
        w.force(NONE);
        is(w.day(0, 0), 3);
        // Three of four ranks, and a law that bars nobody: who can't be held waits all the same.
        LeftHands u = ringWithLaw("first haste*10-load;bars if minute>50", 9, 2, 9);
        u.terms(1, 4);
        int[] haste = {1, 3, 2, 3};
        for (int i = 0; i < 4; i++) u.load(2, 0, 2, 0, haste[i], 0);
        int[] due = {4, 1, 3, 2};
        for (int i = 0; i < 4; i++) is(u.day(i, 0), due[i]);
        // Left is -1 where LEFT is not there.
        LeftHands v = new LeftHands();
        v.stand(1, 9, 0);
        v.stand(7, 9, 0);
        v.load(1, 0, 1, 0, 0, 0);
        law(v, "bars if left<0 or minute<10 or strength=8 or asks=5");
        v.force(0);
        is(v.day(0, 0), 10);
        v.put(0, 1, 8);
        is(v.day(0, 0), NONE);
        v.put(0, 1, 7);
        v.put(0, 2, 5);
        is(v.day(0, 0), NONE);
        is(v.day(0, 2), 0);
    }

    private static void whereAndHeld() {
        promise(19);
        LeftHands x = ring(5, 5, 5, 5);
        x.load(2, 0, 3, 2, 0, 0);
        x.load(3, 1, 3, 1, 0, 0);
        int[] first = {NONE, NONE, 1, 2, NONE};
        int[] second = {NONE, 2, NONE, NONE, NONE};
        for (int m = 0; m < 5; m++) {
            is(x.where(0, m), first[m]);
            is(x.where(1, m), second[m]);
        }
        is(x.where(0, 99), NONE);
        is(x.where(0, 100), NONE);
        is(x.where(0, -1), NONE);
        is(x.where(2, 1), NONE);
        is(x.where(-1, 1), NONE);
        x.put(2, 1, 1);
        is(x.where(0, 99), 1);
        is(x.where(1, 99), 1);
        x.terms(1, 1);
        is(x.where(0, 99), 0);

        promise(20);
        LeftHands y = ring(9, 5, 9, 9);
        y.load(2, 0, 2, 0, 0, 0);
        y.load(3, 0, 2, 0, 0, 0);
        is(y.held(1, 0, 0), 2);
        is(y.held(1, 0, 1), 5);
        is(y.held(0, 0, 0), 0);
        is(y.held(0, 0, 1), 0);
        is(y.held(2, 1, 0), 0);
        is(y.held(1, 99, 1), 0);
        is(y.held(1, 0, 2), NONE);
        is(y.held(1, 0, -1), NONE);
        is(y.held(1, 100, 0), NONE);
        is(y.held(1, -1, 0), NONE);
        is(y.held(4, 0, 0), NONE);
        is(y.held(-1, 0, 0), NONE);
    }

    private static void choke() {
        promise(21);
        LeftHands x = ring(2, 2, 2);
        x.load(2, 0, 2, 0, 0, 0);
        x.load(2, 1, 0, 0, 0, 0);
        is(x.choke(), 0);
        x.load(2, 2, 1, 0, 0, 0);
        is(x.choke(), 7);
        x.put(0, 1, 9);
        is(x.choke(), 0);
        // Two rounds: the one with the lowest stand, which need not come first in the row.
        LeftHands y = new LeftHands();
        y.stand(3, 1, 0);
        y.stand(2, 1, 0);
        y.stand(1, 1, 0);
        y.stand(0, 1, 0);
        y.stand(NONE, 1, 0);
        for (int s = 0; s < 4; s++) y.load(1, s, 4, 0, 0, 0);
        is(y.choke(), 9);
        y.put(0, 1, 2);
        is(y.choke(), 6);
        y.put(1, 1, 2);
        is(y.choke(), 0);
        // One that has no NEXT, and one that a law alone holds, choke nothing.
        LeftHands z = ringWithLaw("bars", 9, 9);
        z.load(1, 0, 1, 0, 0, 0);
        z.load(1, 1, 0, 0, 0, 0);
        is(z.choke(), 0);
        // His own left: it is there itself, so he can't hold it once more.
        LeftHands w = new LeftHands();
        w.stand(0, 3, 0);
        w.stand(NONE, 3, 0);
        w.load(2, 0, 1, 0, 0, 0);
        is(w.choke(), 1);
        is(w.day(0, 3), 100);
        w.put(0, 1, 4);
        is(w.choke(), 0);
        is(w.day(0, 3), 0);
        is(w.day(0, 2), 0);
        chokeOfBarred();
    }

    private static LeftHands fullPair(String text) {
        LeftHands x = ringWithLaw(text, 1, 1);
        x.stand(0, 9, 0);
        x.load(1, 0, 2, 0, 0, 0);
        x.load(1, 1, 2, 0, 0, 0);
        return x;
    }

    private static void chokeOfBarred() {
        // What is BARRED is not held because the porter at NEXT can't HOLD it.
        is(fullPair("first load").choke(), 3);
        is(fullPair("bars").choke(), 0);
        is(fullPair("bars if stand=1").choke(), 0);
        is(fullPair("bars if load=0").choke(), 0);
        is(fullPair("bars if load=2").choke(), 3);
        is(fullPair("bars if 1/0=1").choke(), 3);
        is(fullPair("bars if strength=1 and asks=2 and left=0").choke(), 0);
        // It is asked as it was in the last minute.
        is(fullPair("bars if minute<99").choke(), 3);
        is(fullPair("bars if minute=99").choke(), 0);
        is(fullPair("bars if minute>99").choke(), 3);
        is(fullPair("bars if waits=98").choke(), 3);
        is(fullPair("bars if waits=99").choke(), 0);
        is(fullPair("bars if waits=100").choke(), 3);
        // Another LOAD of the same STAND that is not BARRED chokes there all the same.
        LeftHands x = ringWithLaw("bars if load=0", 2, 2);
        x.stand(0, 9, 0);
        for (int l = 0; l < 4; l++) x.load(1, l / 2, 2, 0, 0, 0);
        is(x.choke(), 3);
        law(x, "bars if load<2");
        x.force(1);
        is(x.choke(), 0);
        x.force(NONE);
        is(x.choke(), 3);
        // One that came to its STAND in the last minute has not waited there.
        is(cameLast("bars if minute<99").choke(), 7);
        is(cameLast("bars if minute<99").where(0, 98), 0);
        is(cameLast("bars if minute<99").where(0, 99), 1);
        is(cameLast("bars if minute<99 or stand=1 and waits=0").choke(), 0);
        is(cameLast("bars if minute<99 or stand=1 and waits>0").choke(), 7);
    }

    private static LeftHands cameLast(String text) {
        LeftHands x = ringWithLaw(text, 2, 1, 2);
        x.stand(0, 9, 0);
        x.load(1, 0, 3, 0, 0, 0);
        x.load(1, 0, 3, 0, 0, 0);
        x.load(2, 2, 3, 0, 0, 0);
        return x;
    }

    private static void searches() {
        promise(22);
        LeftHands x = new LeftHands();
        x.stand(1, 5, 0);
        x.stand(2, 1, 0);
        x.stand(3, 5, 0);
        x.stand(NONE, 1, 0);
        x.stand(NONE, 6, 0);
        x.load(4, 0, 3, 0, 0, 0);
        x.load(1, 0, 0, 7, 0, 0);
        is(x.swaps(2, 0), 0);
        is(x.swaps(2, 1), NONE);
        is(x.swaps(2, 5), 1);
        is(x.swaps(0, 0), 0);
        // The weak porter of 1 changes with 4; with 3 it helps nothing.
        is(x.swaps(1, 0), 1);
        is(x.swaps(3, 1), 1);
        is(x.swaps(3, 2), 4);
        is(x.swaps(3, 3), NONE);
        is(x.swaps(3, 4), NONE);
        is(x.swaps(3, 5), 1);
        x.terms(0, 6);
        is(x.swaps(3, 0), NONE);
        is(x.swaps(3, 5), 0);
        is(x.swaps(1, 0), 1);
        x.terms(0, 1);
        is(x.swaps(1, 0), NONE);
        x.terms(0, 60);
        is(x.swaps(4, 0), NONE);
        is(x.swaps(4, 5), NONE);
        is(x.swaps(-1, 0), NONE);
        is(x.swaps(1, 6), NONE);
        is(x.swaps(1, -1), NONE);
        is(x.of(1, 1), 1);
        twoSwaps();

        searchesInTime();

        promise(23);
        x.put(1, 2, 33);
        is(x.swap(1, 4), 0);
        is(x.of(1, 1), 6);
        is(x.of(4, 1), 1);
        is(x.of(4, 2), 33);
        is(x.of(1, 2), 0);
        is(x.of(1, 0), 2);
        is(x.of(4, 0), NONE);
        is(x.day(0, 0), 2);
        refused(x, x.swap(1, 1), -3);
        refused(x, x.swap(1, 5), -2);
        refused(x, x.swap(5, 1), -2);
        refused(x, x.swap(-1, -1), -2);
        is(x.swap(4, 1), 0);
        is(x.status(), 0);
        is(x.of(4, 1), 6);
        home();
    }

    private static void twoSwaps() {
        // Weak porters at 0 and 1, strong ones at 3 and 4: each of the weak ones with one of the strong.
        LeftHands x = new LeftHands();
        x.stand(1, 1, 0);
        x.stand(2, 1, 0);
        x.stand(NONE, 1, 0);
        x.stand(NONE, 5, 0);
        x.stand(NONE, 6, 0);
        x.load(4, 0, 2, 0, 0, 0);
        is(x.swaps(1, 0), 2);
        is(x.swaps(1, 1), 0);
        is(x.swaps(1, 2), 3);
        is(x.swaps(1, 3), 1);
        is(x.swaps(1, 4), 4);
        // 5 at 0 and 6 at 1, or the other way round: by two pairs in either order.
        is(x.swaps(1, 5), 4);
        // Three that turn: 0 must have 6, 1 must have 5, and 2, which has 5, is the only other one.
        LeftHands y = new LeftHands();
        y.stand(1, 5, 0);
        y.stand(NONE, 6, 0);
        y.stand(NONE, 4, 0);
        y.load(6, 0, 1, 0, 0, 0);
        y.load(5, 2, 1, 0, 0, 0);
        y.put(2, 0, 1);
        is(y.swaps(3, 0), 2);
        is(y.swaps(3, 5), 3);
        is(y.swaps(3, 1), 0);
        is(y.swaps(3, 2), 1);
        is(y.swaps(3, 3), 1);
        is(y.swaps(3, 4), 2);
        is(y.swaps(1, 0), 1);
        is(y.swaps(1, 5), 1);
    }

    private static void searchesInTime() {
        // Nothing goes on for a while, but a law that asks of time lets it go on later.
        for (String text : new String[] {"bars if minute<9", "bars if waits<9", "first 0-waits;bars if not minute>8"}) {
            LeftHands x = ringWithLaw(text, 5, 1, 5);
            x.load(3, 0, 1, 0, 0, 0);
            x.load(5, 2, 2, 3, 0, 0);
            is(x.day(0, 0), 9);
            is(x.swaps(3, 0), 0);
            is(x.home(0), 0);
            x.load(5, 0, 1, 0, 0, 0);
            is(x.day(2, 0), text.startsWith("bars if waits") ? 19 : 10);
            is(x.swaps(7, 0), 0);
            x.terms(0, 9);
            is(x.swaps(7, 0), NONE);
            is(x.swaps(5, 5), 0);
        }
        // A late START sets going what stood still.
        LeftHands y = ringWithLaw("bars if load=0 and minute=0", 5, 5, 5);
        y.force(NONE);
        y.load(5, 0, 2, 0, 0, 0);
        y.load(1, 1, 1, 40, 0, 0);
        y.load(1, 1, 2, 50, 0, 0);
        is(y.swaps(7, 0), 0);
        is(y.home(0), 0);
        // In the first minute nothing goes on but the one that has COME, which lets the other go on.
        LeftHands z = ring(5, 5, 5);
        z.terms(1, 1);
        z.load(1, 0, 2, 0, 0, 0);
        z.load(1, 1, 2, 0, 0, 0);
        is(z.day(0, 0), 2);
        is(z.swaps(3, 0), 0);
        is(z.home(0), 0);
    }

    private static void home() {
        promise(24);
        // 0 -> 1 -> 2 -> 3 -> 4, weak ones between: all of 1, 2, 3 must go, which load 0 allows.
        LeftHands x = new LeftHands();
        for (int s = 0; s < 5; s++) x.stand(s + 1, s == 0 || s == 4 ? 5 : 1, 0);
        x.load(3, 0, 4, 0, 0, 0);
        is(x.home(0), 3);
        is(x.home(1), 14);
        is(x.home(2), 1);
        x.put(1, 1, 3);
        is(x.home(0), 2);
        is(x.home(1), 12);
        x.put(2, 1, 3);
        is(x.home(0), 1);
        is(x.home(1), 8);
        is(x.home(2), 1);
        x.load(1, 3, 4, 0, 0, 0);
        is(x.home(0), NONE);
        is(x.home(1), NONE);
        is(x.home(2), 0);
        x.drop(1);
        x.put(3, 1, 3);
        is(x.home(0), 0);
        is(x.home(1), 0);
        is(x.home(2), 1);
        is(x.home(3), NONE);
        is(x.home(-1), NONE);
        // Either of two that turn a way aside; LATE is no matter, 99 is.
        LeftHands y = new LeftHands();
        y.stand(1, 5, 0);
        y.stand(2, 1, 0);
        y.stand(1, 1, 0);
        y.stand(NONE, 5, 0);
        y.load(1, 0, 3, 99, 0, 0);
        is(y.home(0), NONE);
        y.put(1, 0, 3);
        is(y.home(0), 1);
        is(y.home(1), 2);
        is(y.home(2), 1);
        y.put(0, 0, 2);
        is(y.home(0), 2);
        is(y.home(1), 6);
        y.put(2, 0, 3);
        is(y.home(0), 1);
        is(y.home(1), 4);
        // Left tells a law of the stand at one's left, also of one whose porter is HOME.
        LeftHands z = ringWithLaw("bars if left=1", 5, 1, 5);
        z.load(3, 0, 2, 0, 0, 0);
        is(z.home(0), NONE);
        z.force(NONE);
        is(z.home(0), 1);
        is(z.home(1), 2);
    }

    private static void fees() {
        promise(25);
        LeftHands x = new LeftHands();
        x.stand(1, 9, 10);
        x.stand(2, 9, 20);
        x.stand(NONE, 9, 40);
        x.load(1, 0, 2, 5, 0, 30);
        x.load(1, 1, 2, 0, 0, 19);
        x.load(1, 2, 0, 0, 0, 99);
        x.load(1, 2, 2, 0, 0, 0);
        is(x.cost(0), 30);
        is(x.cost(1), 20);
        is(x.cost(2), NONE);
        is(x.cost(3), 0);
        is(x.cost(4), NONE);
        is(x.cost(-1), NONE);

        promise(26);
        is(x.sent(0), 1);
        is(x.sent(1), 0);
        is(x.sent(2), 0);
        is(x.sent(3), 1);
        is(x.sent(4), NONE);
        is(x.sent(-1), NONE);
        x.put(0, 2, 11);
        is(x.sent(0), 0);
        x.put(0, 2, 10);

        promise(27);
        is(x.income(0), 10);
        is(x.income(1), 20);
        is(x.income(2), 0);
        is(x.income(3), NONE);
        is(x.income(-1), NONE);
        x.put(1, 2, 19);
        is(x.income(1), 38);

        promise(28);
        is(x.answer(0, 0), 11);
        is(x.answer(0, 1), 11);
        is(x.answer(1, 0), 19);
        is(x.answer(1, 1), 38);
        is(x.answer(2, 0), 0);
        is(x.answer(2, 1), 0);
        is(x.answer(0, 2), NONE);
        is(x.answer(0, -1), NONE);
        is(x.answer(3, 0), NONE);
        is(x.answer(-1, 0), NONE);
        is(x.of(0, 2), 10);

        promise(29);
        is(x.restless(), 0);
        x.put(0, 2, 11);
        is(x.restless(), NONE);
        x.put(1, 2, 5);
        is(x.restless(), 0);
        x.put(0, 2, 25);
        is(x.restless(), 1);

        rests();
        feesByLaw();
    }

    private static void rests() {
        promise(30);
        LeftHands x = new LeftHands();
        x.stand(1, 9, 10);
        x.stand(2, 9, 20);
        x.stand(NONE, 9, 40);
        x.load(1, 0, 2, 5, 0, 30);
        x.load(1, 1, 2, 0, 0, 19);
        // 10 is the best of 0; then 1 takes 19, for which he gets 38; then 0 takes 11; then nobody.
        is(x.rests(NONE), 3);
        is(x.rests(0), 11);
        is(x.rests(1), 19);
        is(x.rests(2), 40);
        is(x.rests(3), NONE);
        is(x.rests(-2), NONE);
        is(x.of(0, 2), 10);
        x.put(0, 2, 11);
        x.put(1, 2, 19);
        is(x.rests(NONE), 1);
        LeftHands y = new LeftHands();
        y.stand(1, 5, 11);
        y.stand(2, 5, 3);
        y.stand(0, 5, 27);
        y.load(1, 1, 2, 0, 0, 93);
        y.load(1, 2, 0, 0, 0, 29);
        y.load(1, 0, 1, 0, 0, 6);
        y.load(1, 0, 2, 0, 0, 61);
        y.load(1, 2, 0, 0, 0, 22);
        y.load(1, 2, 1, 0, 0, 14);
        y.load(1, 0, 2, 0, 0, 44);
        is(y.rests(NONE), 51);
    }

    private static void feesByLaw() {
        promise(28);
        // Beyond 10 he gets but 4: 10 is the lowest that brings most.
        LeftHands x = ringWithLaw("fee asks if asks<11;fee 4 if asks>10", 9, 9);
        x.load(1, 0, 1, 0, 0, 50);
        is(x.answer(0, 0), 10);
        is(x.answer(0, 1), 10);
        is(law(x, "fee 1000+asks"), 1);
        x.force(1);
        is(x.answer(0, 1), 0);
        is(x.cost(0), 999);
        is(law(x, "fee 20+load"), 2);
        x.load(1, 0, 1, 0, 0, 999);
        x.force(2);
        is(x.cost(0), 20);
        is(x.cost(1), 21);
        x.force(1);
        is(x.answer(0, 0), 0);
        is(x.answer(0, 1), 999);
        is(x.income(0), 999);
        is(x.restless(), NONE);
    }

    private static void rest() {
        promise(31);
        LeftHands x = ring(3, 2, 4, 1);
        x.load(5, 0, 3, 0, 0, 0);
        x.load(4, 1, 3, 0, 0, 0);
        x.load(9, 2, 2, 0, 0, 0);
        x.load(9, 2, 3, 50, 0, 0);
        is(x.pieces(0), 3 + 3 - 1);
        is(x.pieces(1), 2 + 2 - 1);
        is(x.pieces(2), 0);
        is(x.pieces(3), 1 + 3 - 1);
        is(x.pieces(4), NONE);
        is(x.pieces(-1), NONE);
        x.put(0, 0, NONE);
        is(x.pieces(0), NONE);

        promise(32);
        LeftHands y = ring(1, 1, 1, 1);
        refused(y, y.sign(0, -1), -1);
        refused(y, y.sign(9, 100), -1);
        refused(y, y.sign(4, 0), -2);
        refused(y, y.sign(-1, 0), -2);
        is(y.sign(0, 99), 1);
        is(y.status(), 0);
        for (int i = 2; i <= 8; i++) is(y.sign(3, 0), i);
        refused(y, y.sign(0, 0), -5);
        refused(y, y.sign(4, 0), -2);
        is(y.count(3), 8);

        promise(33);
        is(y.clear(), 8);
        is(y.clear(), 0);
        is(y.count(3), 0);

        promise(34);
        is(y.thieves(), 15);
        y.sign(1, 2);
        is(y.thieves(), 8);
        y.sign(1, 98);
        is(y.thieves(), 8);
        y.sign(3, 0);
        is(y.thieves(), 8);
        y.sign(3, 1);
        is(y.thieves(), 0);
        y.clear();
        y.put(0, 0, 2);
        y.sign(3, 2);
        is(y.thieves(), 1 | 2);
        y.put(2, 0, NONE);
        is(y.thieves(), 0);

        meet();
        draws();
        images();
        counts();
        askedAnew();
    }

    /** What was reckoned before a call that changes something is told anew behind it. */
    private static void askedAnew() {
        LeftHands x = new LeftHands();
        x.stand(1, 5, 3);
        x.load(1, 0, 0, 0, 0, 50);
        promise(2);
        x.put(0, 0, 1);
        is(x.swaps(1, 5), 1);
        is(x.stand(2, 5, 4), 1);
        promise(5);
        is(x.count(5), 0);
        is(x.restless(), NONE);
        is(x.load(1, 0, 1, 0, 0, 60), 1);
        is(x.restless(), 0);
        is(x.rests(0), 60);
        is(x.home(0), 0);
        is(x.day(1, 0), 0);
        is(x.load(1, 1, 0, 0, 0, 60), 2);
        is(x.day(2, 0), NONE);
        is(x.home(0), NONE);
        promise(2);
        is(x.stand(0, 5, 5), 2);
        is(x.day(2, 0), 1);
        is(x.home(0), 0);
        is(x.home(2), 1);
        promise(3);
        x.put(2, 1, 1);
        x.put(1, 1, 1);
        is(x.home(0), 0);
        is(x.swaps(7, 0), 0);
        x.put(0, 0, NONE);
        is(x.home(0), NONE);
        is(x.swaps(7, 0), NONE);
        x.put(0, 0, 1);
        promise(7);
        is(x.day(1, 0), 0);
        is(x.rests(0), 60);
        is(x.drop(1), 2);
        is(x.day(1, 0), 1);
        is(x.rests(0), 3);
        promise(11);
        put(x, 2, 0, 1, 7, 0, 9);
        is(x.count(4), 2);
        is(x.row(), 1);
        is(x.count(4), 3);
        is(x.day(2, 0), 7);
        promise(8);
        is(x.terms(0, 6), 60);
        is(x.count(4), 2);
        is(x.swaps(4, 0), NONE);
        x.terms(0, 60);
        promise(15);
        law(x, "bars;fee 9");
        is(x.cost(2), 3);
        is(x.rests(0), 9);
        x.force(0);
        is(x.count(4), 1);
        is(x.cost(2), 9);
        is(x.rests(0), 3);
        is(x.swaps(4, 0), NONE);
        is(x.home(0), NONE);
        promise(39);
        x.image(0);
        x.force(NONE);
        is(x.count(4), 3);
        is(x.home(0), 0);
        is(x.swaps(4, 0), 0);
        x.back(0);
        is(x.count(4), 1);
        is(x.home(0), NONE);
        is(x.swaps(4, 0), NONE);
        is(x.cost(2), 9);
        x.force(NONE);
        promise(23);
        is(x.day(2, 0), 7);
        is(x.swaps(4, 0), 0);
        is(x.swap(0, 1), 0);
        is(x.day(2, 0), NONE);
        is(x.swaps(4, 0), 1);
        is(x.cost(2), 4);
    }

    private static void meet() {
        promise(35);
        LeftHands x = new LeftHands();
        x.stand(2, 1, 0);
        x.stand(3, 1, 0);
        x.stand(4, 1, 0);
        x.stand(4, 1, 0);
        x.stand(5, 1, 0);
        x.stand(NONE, 1, 0);
        x.stand(7, 1, 0);
        x.stand(6, 1, 0);
        is(x.meet(0, 1, 0), 2);
        is(x.meet(0, 1, 1), 4);
        is(x.meet(2, 3, 0), 1);
        is(x.meet(0, 0, 0), 0);
        is(x.meet(5, 5, 1), 5);
        is(x.meet(0, 2, 0), NONE);
        is(x.meet(0, 2, 1), NONE);
        is(x.meet(6, 7, 0), NONE);
        is(x.meet(0, 6, 0), NONE);
        is(x.meet(0, 1, 2), NONE);
        is(x.meet(0, 1, -1), NONE);
        is(x.meet(8, 1, 0), NONE);
        is(x.meet(1, -1, 0), NONE);
    }

    private static void draws() {
        promise(36);
        LeftHands x = new LeftHands();
        x.stand(NONE, 5, 7);
        x.stand(0, 5, 99);
        x.load(3, 1, 0, 0, 0, 0);
        x.load(1, 0, 1, 0, 0, 9);
        is(x.draw(5), 1);
        is(x.draw(0), 1);
        is(x.draw(1000000), 1);
        is(x.of(0, 1), 5);
        is(x.fact(0, 3), 0);
        x.draw(5);
        refused(x, x.draw(-1), -1);
        refused(x, x.draw(1000001), -1);

        promise(37);
        is(x.drawn(0, 0), 10);
        is(x.drawn(0, 1), 10);
        is(x.drawn(1, 0), NONE);
        is(x.drawn(1, 1), 28);
        is(x.drawn(0, 2), NONE);
        is(x.drawn(0, -1), NONE);
        is(x.drawn(2, 0), NONE);
        is(x.drawn(-1, 0), NONE);
        x.image(0);
        x.draw(0);
        is(x.drawn(0, 1), 12345 % 30);
        x.back(0);
        is(x.drawn(0, 1), 12345 % 30);
        // A later one has fewer LOADS.
        x.drop(0);
        x.draw(0);
        is(x.drawn(0, 1), 12345 % 30);
        is(x.drawn(1, 1), NONE);
        is(x.drawn(1, 0), NONE);
        LeftHands y = new LeftHands();
        y.stand(1, 2, 0);
        y.stand(NONE, 1, 0);
        y.load(2, 0, 1, 0, 0, 0);
        int[] s = {0, 0, 0};
        for (int seed = 0; seed < 40; seed++) {
            int n = seed;
            for (int k = 0; k < 3; k++) {
                n = (int) ((n * 1103L + 12345) % 1000003);
                s[k] = n;
            }
            boolean weak = s[1] % 3 == 0;
            is(y.draw(seed), weak ? 0 : 1);
            is(y.drawn(0, 1), s[0] % 30);
            is(y.drawn(0, 0), weak ? NONE : s[0] % 30);
        }
    }

    private static void images() {
        promise(38);
        LeftHands x = ring(1, 2, 3);
        x.load(1, 0, 2, 0, 0, 50);
        x.sign(1, 1);
        law(x, "fee 3");
        x.force(0);
        x.terms(0, 30);
        refused(x, x.image(2), -1);
        refused(x, x.image(-1), -1);
        is(x.image(1), 0);
        is(x.status(), 0);

        promise(39);
        refused(x, x.back(0), -2);
        refused(x, x.back(2), -1);
        refused(x, x.back(-1), -1);
        x.swap(0, 2);
        x.put(0, 0, NONE);
        x.stand(0, 9, 9);
        x.load(2, 1, 1, 0, 0, 0);
        x.drop(0);
        x.clear();
        law(x, "fee 4");
        x.force(1);
        x.terms(0, 31);
        x.terms(1, 4);
        law(x, "bars if");
        put(x, 1, 2, 3);
        x.row();
        put(x, 7, 7);
        int refusals = x.count(8);
        is(x.image(0), 0);
        is(x.back(1), 0);
        int[] due = {3, 1, 1, 1};
        for (int k = 0; k < 4; k++) is(x.count(k), due[k]);
        is(x.count(6), 2);
        is(x.count(8), refusals);
        is(x.count(12), 0);
        is(x.count(13), 30);
        is(x.count(14), 2);
        is(x.of(0, 1), 1);
        is(x.of(0, 0), 1);
        is(x.fact(0, 2), 2);
        is(x.thieves(), 1);
        is(x.cost(0), 6);
        is(x.fault(), 7);
        is(x.dropped(), 1);
        is(x.day(0, 0), 1);
        // IMAGES stay, and what comes behind does not touch them.
        is(x.back(0), 0);
        is(x.count(0), 4);
        is(x.count(2), 2);
        is(x.of(0, 1), 3);
        x.end(0);
        is(law(x, "fee 7"), 2);
        x.put(0, 1, 9);
        is(x.back(1), 0);
        is(x.count(2), 1);
        is(law(x, "fee 8"), 1);
        is(x.back(0), 0);
        is(x.of(0, 1), 3);
        x.force(1);
        x.put(0, 0, 1);
        x.load(1, 0, 1, 0, 0, 0);
        is(x.cost(1), 4);
    }

    private static void counts() {
        promise(40);
        LeftHands x = ring(2, 2, 2);
        x.load(2, 0, 2, 0, 0, 0);
        x.load(2, 1, 0, 0, 0, 0);
        x.load(2, 2, 2, 70, 0, 0);
        x.sign(0, 0);
        law(x, "bars");
        x.feed(1, 2, 3, 4, 5);
        is(x.count(0), 3);
        is(x.count(1), 3);
        is(x.count(2), 1);
        is(x.count(3), 1);
        is(x.count(4), 2);
        is(x.count(5), 0);
        is(x.count(6), 20);
        x.force(0);
        is(x.count(4), 0);
        is(x.count(5), 2);
        is(x.count(12), 0);
        x.stand(-2, 1, 1);
        x.draw(-1);
        x.drop(7);
        x.put(8, 0, 0);
        x.force(4);
        x.swap(1, 1);
        x.terms(0, 100);
        x.end(0);
        x.law();
        x.row();
        is(x.count(7), 3);
        is(x.count(8), 3);
        is(x.count(9), 1);
        is(x.count(10), 0);
        is(x.count(11), 2);
        for (int i = 0; i < 12; i++) x.stand(0, 1, 1);
        is(x.count(10), 3);
        is(x.count(13), 60);
        is(x.count(14), 2);
        is(x.count(15), NONE);
        is(x.count(-1), NONE);

        promise(41);
        LeftHands y = new LeftHands();
        is(y.status(), 0);
        refused(y, y.stand(0, 0, 0), -1);
        // Calls that can't be refused leave it as it is.
        y.of(0, 0);
        y.feed(1, 2, 3, 4, 5);
        y.end(50);
        y.clear();
        y.fault();
        y.day(5, 5);
        y.swaps(-1, 0);
        is(y.status(), -1);
        is(y.stand(NONE, 1, 1), 0);
        is(y.status(), 0);
        refused(y, y.swap(0, 0), -3);
        is(y.put(0, 0, 5), NONE);
        is(y.status(), 0);
        refused(y, y.force(0), -2);
        is(y.force(NONE), NONE);
        is(y.status(), 0);
        refused(y, y.back(0), -2);
        is(y.terms(0, 1), 60);
        is(y.status(), 0);
        y.end(0);
        refused(y, y.row(), -6);
        is(y.draw(1), 0);
        is(y.status(), 0);
        refused(y, y.law(), -6);
        is(y.image(0), 0);
        is(y.status(), 0);
        refused(y, y.drop(0), -2);
        is(y.back(0), 0);
        is(y.status(), 0);
    }
}
