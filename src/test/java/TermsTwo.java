/** The document's Terms II, sentence by sentence: laws, their language, what they tell. */
final class TermsTwo extends Checks {
    private TermsTwo() { }

    static void ask() {
        room();
        tokens();
        clauses();
        tests();
        sums();
        bounds();
        faultPlaces();
        asked();
        broken();
        holds();
        told();
        barsAndRanks();
    }

    private static String times(int n, String text, String between) {
        StringBuilder all = new StringBuilder();
        for (int i = 0; i < n; i++) all.append(i == 0 ? "" : between).append(text);
        return all.toString();
    }

    private static void room() {
        says("LAWS are TEXTS, 6 at most, on a TAPE of at most 400 bytes;");
        LeftHands x = new LeftHands();
        for (int k = 0; k < 6; k++) {
            is(x.count(2), k);
            accepted(x, law(x, "fee " + k), k);
        }
        refused(x, law(x, "fee 6"), -5);
        is(x.count(2), 6);
        for (int k = 0; k < 6; k++) is(x.force(k), k - 1);
        refused(x, x.force(6), -2);
        LeftHands y = new LeftHands();
        is(law(y, "bars" + " ".repeat(396)), 0);
        is(law(y, " ".repeat(395) + "fee 1"), 1);
        put(y, Feeder.bytesOf(" ".repeat(400)));
        is(y.count(6), 400);
        is(y.feed(0, 0, 0, 0, 0), NONE);
        is(y.count(6), 400);
        refused(y, y.law(), -6);
        is(y.fault(), 400);

        // Six of the longest, others in between that can't be: each is kept whole.
        LeftHands w = row(9, 9);
        w.load(1, 0, 1, 0, 0, 0);
        for (int k = 0; k < 6; k++) {
            refused(w, law(w, "fee " + times(50, "1", "*") + " if 1=1;"), -6);
            is(law(w, "fee " + times(43, "1", "+") + "+" + k + " if not (0=1 or 1=0);bars if not 1=1"), k);
        }
        for (int k = 0; k < 6; k++) {
            w.force(k);
            is(w.cost(0), 43 + k);
            is(w.day(0, 0), 0);
        }

        says("one is in FORCE (NONE at first: no CLAUSE).");
        LeftHands z = row(9, 9);
        z.load(1, 0, 1, 0, 0, 0);
        is(z.count(12), NONE);
        law(z, "bars;fee 5");
        is(z.count(12), NONE);
        is(z.cost(0), 0);
        is(z.day(0, 0), 0);
        z.force(0);
        is(z.cost(0), 5);
        is(z.day(0, 0), NONE);
        accepted(z, z.force(NONE), 0);
        is(z.cost(0), 0);
        is(z.day(0, 0), 0);
    }

    private static void tokens() {
        says("TOKENS: longest rows of letters a .. z, of digits, single other bytes, any blanks (32) between.");
        is(faultOf("feeload"), 0);
        is(faultOf("barsif 1=1"), 0);
        is(faultOf("barsz"), 0);
        is(faultOf("barsa"), 0);
        is(faultOf("ba rs"), 0);
        is(faultOf("fee1"), NONE);
        is(faultOf("fee 1if 1=1"), NONE);
        is(faultOf("fee 1 0"), 6);
        is(faultOf("fee 09"), NONE);
        is(costBy("fee 1 + 90"), 91);
        is(faultOf("fee loa d"), 4);
        is(faultOf("fee[1+2]*3if not(1=2)and 1<2;bars"), NONE);
        is(faultOf("  fee  [  1+  2 ]*3  if not  (  1 =2 )and 1 < 2  ;  bars  "), NONE);
        // Next to the letters and the digits; single bytes, so each is a TOKEN alone.
        is(faultOf("bars`"), 4);
        is(faultOf("bars{"), 4);
        is(faultOf("`bars"), 0);
        is(faultOf("{bars"), 0);
        is(faultOf("barsA"), 4);
        is(faultOf("barsZ"), 4);
        is(faultOf("BARS"), 0);
        is(faultOf("Bars"), 0);
        is(faultOf("fee 1:"), 5);
        is(faultOf("fee 1."), 5);
        is(faultOf("fee 1,000"), 5);
        is(faultOf("fee 1/:"), 6);
        is(faultOf("fee 1++1"), 6);
        is(faultOf("bars if 1<=1"), 10);
        is(faultOf("bars if 1==1"), 10);
        is(faultOf("bars;;bars"), 5);
        // 32 alone is a blank.
        for (int sign : new int[] {0, 9, 10, 13, 31, 33, 96, 127, 128, 160, 255}) {
            is(faultOf("bars " + (char) sign), 5);
            is(faultOf((char) sign + "bars"), 0);
        }
        // Letters and digits of other signs are none.
        is(faultOf("fee \u00e9"), 4);
        is(faultOf("fee 1\u00b2"), 5);
    }

    private static void clauses() {
        says("CLAUSE {\";\" CLAUSE}, 12 at most (FAULT at the 13th's first TOKEN).");
        is(faultOf("bars"), NONE);
        is(faultOf(times(11, "bars", ";")), NONE);
        is(faultOf(times(12, "bars", ";")), NONE);
        is(faultOf(times(13, "bars", ";")), 60);
        is(faultOf(times(14, "bars", ";")), 60);
        is(faultOf(times(12, "bars", ";") + ";   fee 1001"), 63);
        is(faultOf(times(12, "bars", ";") + ";  "), 62);
        is(faultOf(times(12, "bars", ";") + ";]"), 60);
        is(faultOf(times(12, "fee 1 if 1=1", " ; ")), NONE);
        is(faultOf(times(13, "fee 1 if 1=1", " ; ")), 180);
        // All twelve are asked.
        is(costBy(times(11, "fee 1", ";") + ";fee 12"), 12);
        is(costBy("fee 11;" + times(11, "fee 1 if 1=2", ";")), 11);
        LeftHands x = new LeftHands();
        refused(x, law(x, times(13, "bars", ";")), -6);
        is(law(x, times(12, "bars", ";")), 0);

        says("CLAUSE: ((\"first\" | \"fee\") SUM | \"bars\") [\"if\" TEST].");
        is(faultOf("first 1"), NONE);
        is(faultOf("fee 1"), NONE);
        is(faultOf("first 1 if 1=1"), NONE);
        is(faultOf("fee 1 if 1=1"), NONE);
        is(faultOf("bars if 1=1"), NONE);
        is(faultOf("first"), 5);
        is(faultOf("first if 1=1"), 6);
        is(faultOf("fee;bars"), 3);
        is(faultOf("bars 1"), 5);
        is(faultOf("bars load"), 5);
        is(faultOf("bars if"), 7);
        is(faultOf("bars if if 1=1"), 8);
        is(faultOf("bars if 1=1 if 1=1"), 12);
        is(faultOf("if 1=1"), 0);
        is(faultOf("load"), 0);
        is(faultOf(";bars"), 0);
        is(faultOf("fee 1 bars"), 6);
        is(faultOf("fee 1 and 1"), 6);
    }

    private static void tests() {
        says("TEST: BOTH {\"or\" BOTH}.");
        is(faultOf("bars if 1=1 or 1=2 or 1=3"), NONE);
        is(faultOf("bars if or 1=1"), 8);
        is(faultOf("bars if 1=1 or"), 14);
        is(faultOf("bars if 1=1 or or 1=1"), 15);
        is(faultOf("bars if 1 or 1=1"), 10);
        is(costBy("fee 1;fee 2 if 1=2 or 1=2 or 1=1"), 2);
        is(costBy("fee 1;fee 2 if 1=2 or 1=2 or 1=3"), 1);

        says("BOTH: PLAIN {\"and\" PLAIN}.");
        is(faultOf("bars if 1=1 and 1=2 and 1=3"), NONE);
        is(faultOf("bars if and 1=1"), 8);
        is(faultOf("bars if 1=1 and"), 15);
        is(faultOf("bars if 1=1 and or 1=1"), 16);
        is(costBy("fee 1;fee 2 if 1=1 and 1=1 and 1=2"), 1);
        is(costBy("fee 1;fee 2 if 1=1 and 1=1 and 2=2"), 2);
        is(costBy("fee 1;fee 2 if 1=1 or 1=1 and 1=2"), 2);
        is(costBy("fee 1;fee 2 if 1=2 and 1=1 or 1=1"), 2);
        is(costBy("fee 1;fee 2 if 1=2 and (1=1 or 1=1)"), 1);

        says("PLAIN: \"not\" PLAIN | \"(\" TEST \")\" | SUM (\"<\" | \">\" | \"=\") SUM.");
        is(costBy("fee 1;fee 2 if not 1=2"), 2);
        is(costBy("fee 1;fee 2 if not not 1=2"), 1);
        is(costBy("fee 1;fee 2 if not 1=2 and 1=2"), 1);
        is(costBy("fee 1;fee 2 if not (1=2 and 1=2)"), 2);
        is(costBy("fee 1;fee 2 if not 1=1 or 1=1"), 2);
        is(costBy("fee 1;fee 2 if not (1=1 or 1=1)"), 1);
        is(costBy("fee 1;fee 2 if (1=1)"), 2);
        is(faultOf("bars if " + times(90, "not", " ") + " 1=1"), NONE);
        is(costBy("fee 1;fee 2 if " + times(90, "not", " ") + " 1=1"), 2);
        is(costBy("fee 1;fee 2 if " + times(89, "not", " ") + " 1=1"), 1);
        is(faultOf("bars if not"), 11);
        is(faultOf("bars if not;"), 11);
        is(faultOf("bars if ()"), 9);
        is(faultOf("bars if (1=1"), 12);
        is(faultOf("bars if (1=1]"), 12);
        is(faultOf("bars if 1=1)"), 11);
        is(faultOf("bars if (1)=1"), 10);
        is(faultOf("bars if (1=1)=1"), 13);
        is(faultOf("bars if 1"), 9);
        is(faultOf("bars if 1="), 10);
        is(faultOf("bars if =1"), 8);
        is(faultOf("bars if 1=2=3"), 11);
        is(faultOf("bars if 1=not 2"), 10);
        String[] signs = {"<", ">", "="};
        boolean[][] due = {{true, false, false}, {false, false, true}, {false, true, false}};
        for (int how = 0; how < 3; how++) {
            for (int a = 4; a <= 6; a++) {
                String test = a + signs[how] + "5";
                boolean so = due[how][a - 4];
                is(costBy("fee 1;fee 2 if " + test), so ? 2 : 1);
                is(costBy("fee 1;fee 2 if not " + test), so ? 1 : 2);
                is(costBy("fee 1;fee 2 if not not " + test), so ? 2 : 1);
                is(costBy("fee 1;fee 2 if not (" + test + " and 1=1)"), so ? 1 : 2);
            }
        }
        is(costBy("fee 1;fee 2 if 2+3=10/2"), 2);
    }

    private static void sums() {
        says("SUM: TERM {(\"+\" | \"-\") TERM}.");
        is(costBy("fee 10-3-2"), 5);
        is(costBy("fee 10-3+2"), 9);
        is(costBy("fee 1+2*3"), 7);
        is(costBy("fee 20-6/2"), 17);
        is(faultOf("fee 1+"), 6);
        is(faultOf("fee +1"), 4);
        is(faultOf("fee -1"), 4);
        is(faultOf("fee 1--1"), 6);

        says("TERM: PART {(\"*\" | \"/\") PART}.");
        is(costBy("fee 12/2*3"), 18);
        is(costBy("fee 12*3/2"), 18);
        is(costBy("fee 100/5/2"), 10);
        is(faultOf("fee 1*"), 6);
        is(faultOf("fee *1"), 4);
        is(faultOf("fee 1*/1"), 6);

        says("PART: NUMBER (to 1,000) | \"[\" SUM \"]\" | \"load\" | \"weight\" | \"haste\" | \"stand\" | \"left\" | \"minute\" | \"waits\" | \"strength\" | \"asks\".");
        is(faultOf("fee 0"), NONE);
        is(faultOf("fee 999"), NONE);
        is(faultOf("fee 1000"), NONE);
        is(faultOf("fee 1001"), 4);
        is(faultOf("fee 1002"), 4);
        is(faultOf("fee 9999"), 4);
        is(faultOf("fee 1+1001"), 6);
        is(faultOf("fee 0000000000000000000001000"), NONE);
        is(costBy("fee 0000000000000000000000017"), 17);
        is(faultOf("fee 0000000000000000000001001"), 4);
        // What would be small again, if it went round.
        is(faultOf("fee 4294967296"), 4);
        is(faultOf("fee 4294967301"), 4);
        is(faultOf("fee 18446744073709551617"), 4);
        is(faultOf("fee 1" + "0".repeat(390)), 4);
        is(faultOf("fee " + "9".repeat(396)), 4);
        is(faultOf("fee " + "0".repeat(396)), NONE);
        is(costBy("fee [7]"), 7);
        is(costBy("fee [1+2]*[3+4]"), 21);
        is(costBy("fee 20-[3-2]"), 19);
        is(faultOf("fee []"), 5);
        is(faultOf("fee [1"), 6);
        is(faultOf("fee [1)"), 6);
        is(faultOf("fee 1]"), 5);
        is(faultOf("fee (1)"), 4);
        is(faultOf("fee [1=1]"), 6);
        is(faultOf("bars if [1=1]"), 10);
        for (String word : new String[] {"load", "weight", "haste", "stand", "left", "minute", "waits", "strength", "asks"}) {
            is(faultOf("fee " + word), NONE);
            is(faultOf("fee 1*[" + word + "]-" + word), NONE);
            is(faultOf("fee " + word + "s"), 4);
            is(faultOf("fee " + word.substring(1)), 4);
            is(faultOf("fee " + word.substring(0, word.length() - 1)), 4);
            is(faultOf(word + " 1"), 0);
        }
        oneLetterOff();
        for (String word : new String[] {"first", "fee", "bars", "if", "not", "and", "or", "pay", "noon"}) is(faultOf("fee " + word), 4);
    }

    // A word is none, if any of its letters is another one.
    private static void oneLetterOff() {
        String[] texts = {"first 1", "fee 1", "bars if 1=1", "bars if not 1=1", "bars if 1=1 and 1=1", "bars if 1=1 or 1=1", "fee load", "fee weight",
            "fee haste", "fee stand", "fee left", "fee minute", "fee waits", "fee strength", "fee asks"};
        for (String text : texts) {
            for (int i = 0; i < text.length(); i++) {
                if (text.charAt(i) < 'a') continue;
                int word = text.lastIndexOf(' ', i) + 1;
                is(faultOf(text.substring(0, i) + 'x' + text.substring(i + 1)), word);
            }
        }
    }

    private static void bounds() {
        says("50 PARTS that are NUMBERS and words (FAULT at the 51st)");
        is(faultOf("fee " + times(49, "1", "+")), NONE);
        is(faultOf("fee " + times(50, "1", "+")), NONE);
        is(faultOf("fee " + times(51, "1", "+")), 104);
        is(faultOf("fee " + times(50, "1", "+") + "+"), 104);
        is(faultOf("fee " + times(50, "1", "+") + "+load"), 104);
        is(faultOf("fee " + times(50, "1", "+") + "+ [1]"), 106);
        is(faultOf("fee " + times(50, "load", "-")), NONE);
        is(faultOf("fee " + times(51, "load", "-")), 4 + 50 * 5);
        is(faultOf("fee " + times(25, "1+load", "*")), NONE);
        is(faultOf("fee " + times(25, "1+load", "*") + "-0"), 4 + 25 * 7);
        is(costBy("fee " + times(50, "1", "+")), 50);
        // Brackets, heads and what joins are none of them; all CLAUSES are one TEXT.
        is(faultOf("fee " + times(50, "[1]", "+") + " if"), 4 + 50 * 4 + 2);
        is(faultOf("bars if " + times(25, "not (1=1)", " or ")), NONE);
        is(faultOf("bars if " + times(25, "not (1=1)", " or ") + ";bars;fee 1"), 8 + 25 * 9 + 24 * 4 + 10);
        is(faultOf("fee " + times(25, "1", "+") + " if " + times(25, "1", "+") + "=1"), 4 + 49 + 4 + 49 + 1);
        // A new TEXT is counted anew.
        LeftHands x = new LeftHands();
        is(law(x, "fee " + times(50, "1", "+")), 0);
        is(law(x, "fee " + times(50, "1", "+")), 1);

        says(", 8 brackets of both kinds within one another (FAULT at the 9th) at most.");
        is(faultOf("fee " + "[".repeat(7) + "1" + "]".repeat(7)), NONE);
        is(faultOf("fee " + "[".repeat(8) + "1" + "]".repeat(8)), NONE);
        is(faultOf("fee " + "[".repeat(9) + "1" + "]".repeat(9)), 12);
        is(faultOf("fee " + "[".repeat(100)), 12);
        is(faultOf("bars if " + "(".repeat(8) + "1=1" + ")".repeat(8)), NONE);
        is(faultOf("bars if " + "(".repeat(9) + "1=1" + ")".repeat(9)), 16);
        is(faultOf("bars if " + "(".repeat(5) + "[[[1]]]=1" + ")".repeat(5)), NONE);
        is(faultOf("bars if " + "(".repeat(5) + "1=[[[1]]]" + ")".repeat(5)), NONE);
        is(faultOf("bars if " + "(".repeat(5) + "[[[[1]]]]=1" + ")".repeat(5)), 16);
        is(faultOf("bars if " + "(".repeat(5) + "1=[[[[1]]]]" + ")".repeat(5)), 18);
        is(faultOf("bars if " + "(".repeat(8) + "[1]=1" + ")".repeat(8)), 16);
        is(faultOf("bars if " + "not (".repeat(9) + "1=1"), 8 + 8 * 5 + 4);
        // Beside one another there may be more of them.
        is(faultOf("fee " + times(20, "[1]", "+")), NONE);
        is(faultOf("fee " + times(4, "[[[[[[[[1]]]]]]]]", "+")), NONE);
        is(faultOf("fee [[[[[[[1]]]]]]]+[[[[[[[[[1]"), 28);
        is(faultOf("bars if ((((((((1=1)))))))) and ((((((((1=1))))))))"), NONE);
        is(faultOf("fee [[[[[[[[1]]]]]]]] if ((((((((1=1))))))))"), NONE);
        is(costBy("fee [[[[[[[[17]]]]]]]]"), 17);
    }

    private static void faultPlaces() {
        says("FAULT: the first TOKEN that can't go on there (the end's: the TEXT's length).");
        is(faultOf(""), 0);
        is(faultOf(" "), 1);
        is(faultOf("fee"), 3);
        is(faultOf("fee  "), 5);
        is(faultOf("fee 1 +  "), 9);
        is(faultOf("bars;  "), 7);
        is(faultOf("  bras"), 2);
        is(faultOf("fee 1 if 1=1 or weight"), 22);
        is(faultOf("fee 1 if 1=1 or weight if"), 23);
        is(faultOf("fee 1; fee 2; fie 3; foe"), 14);
        is(faultOf("bars" + " ".repeat(395) + "x"), 399);
        is(faultOf("fee 1+" + " ".repeat(394)), 400);
    }

    private static LeftHands dayUnder(String text) {
        LeftHands x = ring(6, 7, 8);
        x.load(2, 2, 2, 50, 0, 0);
        x.load(3, 1, 0, 4, 5, 0);
        is(law(x, text), 0);
        x.force(0);
        return x;
    }

    // Load 1 of weight 3, haste 5, waits at stand 1 (strength 7, fee 2, left 2) from minute 4 on.
    private static void asked() {
        says("It is asked of a LOAD at a STAND, its LEFT (-1: nobody), the minute, how many minutes it waited there so far, the STRENGTH of the porter of that STAND, his FEE (asks).");
        String[] so = {"load=1", "weight=3", "haste=5", "stand=1", "left=2", "strength=7", "asks=2"};
        for (String test : so) {
            is(dayUnder("bars if stand=1 and " + test).day(1, 0), NONE);
            is(dayUnder("bars if stand=1 and not " + test).day(1, 0), 5);
        }
        is(dayUnder("bars if minute<4").day(1, 0), 5);
        is(dayUnder("bars if minute<5").day(1, 0), 6);
        is(dayUnder("bars if minute<99").day(1, 0), NONE);
        is(dayUnder("bars if minute<98").day(1, 0), 99);
        is(dayUnder("bars if stand=1 and waits<1").day(1, 0), 6);
        is(dayUnder("bars if stand=1 and waits<94").day(1, 0), 99);
        is(dayUnder("bars if stand=1 and waits<95").day(1, 0), NONE);
        is(dayUnder("bars if stand=1 and waits<95").day(1, 2), 2);
        is(dayUnder("bars if stand=1 and waits<96").day(1, 2), 1);
        // At each STAND it waits anew.
        is(dayUnder("bars if waits<3").day(1, 0), 5 + 3 + 3);
        // Nobody at the left of 2.
        LeftHands x = dayUnder("bars if left<0");
        x.put(2, 0, NONE);
        is(x.day(1, 2), 2);
        is(costBy("fee 50+left*10"), 60);
        is(costBy("fee load+stand"), 0);
        is(costBy("fee minute"), 0);
        is(costBy("fee waits"), 0);
        is(costBy("fee weight*100+haste*10+strength"), 364);
        is(costBy("fee asks"), 7);

        says("(left is -1, too, if LEFT is not there.)");
        // No answer can tell it from another number, as nothing goes on from there: it must do no harm.
        for (int left : new int[] {NONE, 2, 11}) {
            LeftHands z = row(9, 9);
            z.put(1, 0, left);
            z.load(1, 1, 0, 0, 0, 0);
            z.load(1, 0, 1, 0, 0, 0);
            lawInForce(z, "first 10/left;bars if left=stand;fee 7/[1-left]");
            is(z.day(0, 0), NONE);
            is(z.day(0, 3), 100);
            is(z.cost(0), NONE);
            is(z.day(1, 0), 0);
            is(z.cost(1), 0);
        }
    }

    private static void broken() {
        says("Beyond 1,000,000,000 either way, or divided by 0, a SUM, a TEST is BROKEN; / is cut towards 0.");
        String most = "1000*1000*1000";
        is(costBy("fee 1;fee " + most), 999);
        is(costBy("fee 1;fee " + most + "+1"), 1);
        is(costBy("fee 1;fee " + most + "+1-1"), 1);
        is(costBy("fee 1;fee " + most + "-1+1"), 999);
        is(costBy("fee 1;fee " + most + "*1"), 999);
        is(costBy("fee 1;fee " + most + "*2/2"), 1);
        is(costBy("fee 1;fee 1000*1000*[1000+1]"), 1);
        is(costBy("fee 1;fee 0-" + most), 0);
        is(costBy("fee 1;fee 0-" + most + "-1"), 1);
        is(costBy("fee 1;fee 0-" + most + "-1+1"), 1);
        is(costBy("fee 1;fee [0-1000]*1000*1000"), 0);
        is(costBy("fee 1;fee [0-1000]*1000*[1000+1]"), 1);
        is(costBy("fee 1;fee [" + most + "]*[" + most + "]"), 1);
        is(costBy("fee 1;fee [" + most + "]*[" + most + "]*[" + most + "]"), 1);
        is(costBy("fee 1;fee [" + most + "]-[" + most + "]"), 0);
        is(costBy("fee 1;fee 2 if " + most + "=" + most), 2);
        is(costBy("fee 1;fee 2 if " + most + "+1>0"), 1);
        is(costBy("fee 1;fee 2 if 0<" + most + "+1"), 1);
        is(costBy("fee 1;fee 2 if 0-" + most + "-1<0"), 1);
        is(costBy("fee 1;fee 2 if 0-" + most + "<0"), 2);
        is(costBy("fee 1;fee 3/0"), 1);
        is(costBy("fee 1;fee 0/0"), 1);
        is(costBy("fee 1;fee 3/[1-1]"), 1);
        is(costBy("fee 1;fee 3/0*0"), 1);
        is(costBy("fee 1;fee 0*[3/0]"), 1);
        is(costBy("fee 1;fee 3/load"), 1);
        is(costBy("fee 1;fee 0/3"), 0);
        is(costBy("fee 1;fee 2 if 1/0=1/0"), 1);
        is(costBy("fee 1;fee 2 if not 1/0=1"), 1);
        is(costBy("fee 50+7/2"), 53);
        is(costBy("fee 50+[0-7]/2"), 47);
        is(costBy("fee 50+7/[0-2]"), 47);
        is(costBy("fee 50+[0-7]/[0-2]"), 53);
        is(costBy("fee 50+[0-1]/2"), 50);
        is(costBy("fee 50+1/2"), 50);
        is(costBy("fee 50+[0-6]/2"), 47);
        // No SUM is BROKEN for good: the next one is asked anew.
        is(costBy("fee 5;fee 1/0;fee 2 if 1/0=1"), 5);
    }

    private static void holds() {
        says("A CLAUSE HOLDS, if its \"if\" (if it has one) is so, and neither that nor its SUM is BROKEN");
        is(costBy("fee 2"), 2);
        is(costBy("fee 2 if 1=1"), 2);
        is(costBy("fee 2 if 1=2"), 7);
        is(costBy("fee 2/0"), 7);
        is(costBy("fee 2/0 if 1=1"), 7);
        is(costBy("fee 2 if 1/0=1"), 7);
        is(costBy("fee 2 if 1/0<1 or 1/0>1"), 7);
        LeftHands x = row(9, 9);
        x.load(1, 0, 1, 0, 0, 0);
        String[] bars = {"bars", "bars if 1=1", "bars if 1=2", "bars if 1/0=1", "bars if not 1/0=1"};
        for (int k = 0; k < 5; k++) {
            lawInForce(x, bars[k]);
            is(x.day(0, 0), k < 2 ? NONE : 0);
        }

        says("(\"or\", \"and\" ask what stands behind only if it can still matter; a part that was asked and is BROKEN makes all of it BROKEN).");
        String[] yes = {"1=1 or 1/0=1", "1=1 or 1=1 or 1/0=1", "not (1=2 and 1/0=1)", "1=2 and 1/0=1 or 1=1", "1=1 or 1/0=1 and 1=1",
            "(1=1 or 1/0=1) and 2=2", "1=2 and 1/0=1 and 1/0=2 or 1=1", "1=1 and 2=2 or 1/0=1", "not (1=2 and (1/0=1 or 1=1))"};
        String[] no = {"1/0=1 or 1=1", "1=2 or 1/0=1", "1=2 or 1/0=1 or 1=1", "1=1 and 1/0=1 or 1=1", "not (1=1 and 1/0=1)", "not (1/0=1 and 1=2)",
            "1=2 and 1/0=1", "1=2 or 1=1 and 1/0=1", "not (1=2 or 1/0=1)", "(1=2 or 1=1) and 1/0=1", "not (1=1 or 1/0=1)", "1=1 and 1=2 or 1/0=1"};
        for (String test : yes) is(costBy("fee 1;fee 2 if " + test), 2);
        for (String test : no) is(costBy("fee 1;fee 2 if " + test), 1);
    }

    private static void told() {
        says("Told by a HEAD is what the last CLAUSE with it that HOLDS tells.");
        is(costBy("fee 1;fee 2;fee 3"), 3);
        is(costBy("fee 1;fee 2;fee 3 if 1=2"), 2);
        is(costBy("fee 1;fee 2/0;fee 3 if 1=2"), 1);
        is(costBy("fee 1;first 2;bars;first 3"), 1);
        is(costBy("first 2;bars"), 7);
        is(costBy("fee 1 if asks=7;fee 2 if asks>7;fee 3 if asks<7"), 1);
        LeftHands x = row(9, 9);
        x.load(1, 0, 1, 0, 0, 0);
        lawInForce(x, "bars if minute<5;bars if minute>90;fee 3");
        is(x.day(0, 0), 5);

        says("Whoever hands a LOAD on gets what \"fee\" tells then, 0 .. 999 (else the nearest), his FEE without.");
        is(costBy("fee 0"), 0);
        is(costBy("fee 0-1"), 0);
        is(costBy("fee 0-1000"), 0);
        is(costBy("fee 0-1000*1000*1000"), 0);
        is(costBy("fee 998"), 998);
        is(costBy("fee 999"), 999);
        is(costBy("fee 1000"), 999);
        is(costBy("fee 1000*1000*1000"), 999);
        is(costBy("first 5"), 7);
        is(costBy("fee 5 if 1=2"), 7);
        is(costBy("fee 5/0"), 7);
        LeftHands y = row(9, 9);
        y.put(0, 2, 99);
        y.load(1, 0, 1, 0, 0, 0);
        is(y.cost(0), 99);
        // Each of a WAY is held within these bounds, not all of them together.
        LeftHands z = row(9, 9, 9);
        z.load(1, 0, 2, 0, 0, 0);
        lawInForce(z, "fee 1000*[1-2*stand]");
        is(z.cost(0), 999);
        lawInForce(z, "fee 1000");
        is(z.cost(0), 2 * 999);
    }

    private static void barsAndRanks() {
        says("A LOAD is BARRED from being handed on, if \"bars\" HOLDS.");
        LeftHands x = row(9, 9, 9);
        x.load(1, 0, 1, 0, 0, 0);
        x.load(1, 0, 2, 0, 0, 0);
        x.load(1, 1, 1, 3, 0, 0);
        lawInForce(x, "bars");
        is(x.day(0, 0), NONE);
        is(x.day(0, 2), 0);
        is(x.day(0, 3), 100);
        is(x.day(1, 0), NONE);
        // None hands it on that has COME in its START.
        is(x.day(2, 0), 3);
        lawInForce(x, "bars if load=1 and stand=1");
        is(x.day(0, 0), 0);
        is(x.day(1, 2), 1);
        is(x.day(1, 3), 99);

        says("The RANK of a LOAD is what \"first\" tells, 0 without.");
        // Both at 0, one at a time can go on; 0 goes first, if both are alike.
        String[] laws = {"first 0-1 if load=0", "first 1 if load=1", "first load", "first load-1", "first 1000*1000*1000*load",
            "first 0-1000*1000*1000 if load=0", "first 2;first 1/[load-1]+2 if load=0", "first 1;first 5 if load=1"};
        for (String text : laws) order(text, 1, 0);
        String[] alike = {"fee 1", "first 5", "first 1/0 if load=1", "first 1 if load=1 and 1/0=1", "first 0 if load=1", "first load-load",
            "first 1 if load=0", "first 0-load", "first 0-1 if load=1"};
        for (String text : alike) order(text, 0, 1);
    }

    private static void order(String text, int first, int second) {
        LeftHands x = row(9, 2, 9);
        x.load(2, 0, 2, 0, 0, 0);
        x.load(2, 0, 2, 0, 0, 0);
        is(law(x, text), 0);
        x.force(0);
        is(x.day(first, 0), 1);
        is(x.day(second, 0), 2);
    }
}
