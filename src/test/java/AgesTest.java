/** Promises 11, 51 to 53: ages and their faults, what is lived, odds. */
final class AgesTest {
    private static final Check check = new Check("AgesTest");
    private static final String HALL =
        "lesson one gives a takes 5 costs 10;lesson two gives n takes 3;lesson tri gives n takes 4 costs 2 needs two;"
        + "lesson qua gives a takes 2 needs one;lesson fiv gives s takes 6 costs 1 needs two qua;"
        + "child eva gift 2 purse 20;child ida purse 5;sounds 1;master bob;";

    public static void main(String[] args) {
        taken();
        tapeOfAges();
        faultsOfTokens();
        faultsOfNames();
        faultsOfNumbers();
        faultsOfMany();
        steps();
        missed();
        tests();
        loops();
        stops();
        atMost();
        fates();
        fatesByNothing();
        refused();
        kept();
        odds();
        check.finish();
    }

    private static void taken() {
        LetterNames x = Check.of(HALL);
        check.taken("an empty age", x, x.age(0), 0);
        check.taken("live of an empty age", x, x.live(0), 0);
        check.taken("nothing was left", x, x.lived(3), 0);
        check.taken("all steps", x, Check.age(x, "learn eva one;lose eva 11;fate ida;rest eva 99;pay ida 1;when long eva<12;when says eva;"
            + "when knows ida two;stop;end;end;loop 99;end;end;"), 10);
        check.taken("edges of numbers", x, Check.age(x, "lose eva 0;lose eva 11;rest eva 1;rest eva 99;pay eva 1;pay eva 99;loop 1;end;"
            + "loop 99;end;when long eva=0;end;when long eva > 12;end;"), 10);
    }

    private static void tapeOfAges() {
        LetterNames x = Check.of(HALL);
        StringBuilder text = new StringBuilder("stop;");
        while (text.length() < 320) {
            text.append(' ');
        }
        Check.feed(x, text.toString());
        check.refused("age(321)", x, x.age(321), 5);
        check.refused("age(301)", x, x.age(301), 5);
        check.refused("age(-1)", x, x.age(-1), 5);
        check.taken("age(300)", x, x.age(300), 1);
        check.refused("the tape is empty", x, x.age(1), 5);
    }

    private static void fault(String text, int kind, int place) {
        LetterNames x = Check.of(HALL);
        Check.age(x, "rest eva 1;rest eva 1;");
        check.refused("age '" + text + "'", x, Check.age(x, text), 10);
        check.due("fault(0) of '" + text + "'", x.fault(0), kind);
        check.due("fault(1) of '" + text + "'", x.fault(1), place);
        check.taken("the old age stays", x, x.live(0), 2);
        check.refused("the tape is empty", x, x.age(1), 5);
    }

    private static void faultsOfTokens() {
        fault("stop,", 1, 4);
        fault("rest eva 00001;", 1, 9);
        fault("A", 1, 0);
        fault("stop", 2, 4);
        fault("stop;;", 2, 5);
        fault("eva;", 2, 0);
        fault("5;", 2, 0);
        fault("master ann;", 2, 0);
        fault("long eva = 1;", 2, 0);
        fault("learn;", 2, 5);
        fault("learn 5", 2, 6);
        fault("learn eva;", 2, 9);
        fault("learn eva 5;", 2, 10);
        fault("learn loop", 2, 6);
        fault("learn abcdefghi one", 2, 6);
        fault("lose eva one;", 2, 9);
        fault("fate eva 1;", 2, 9);
        fault("rest eva;", 2, 8);
        fault("loop eva;", 2, 5);
        fault("loop 2 stop;", 2, 7);
        fault("when eva;", 2, 5);
        fault("when ;end;", 2, 5);
        fault("loop ;end;", 2, 5);
        fault("learn ;", 2, 6);
        fault("when learn eva one;", 2, 5);
        fault("when long eva 1;", 2, 14);
        fault("when long eva ; 1;", 2, 14);
        fault("when long eva < eva;", 2, 16);
        fault("when says eva = 1;", 2, 14);
        fault("when knows eva;", 2, 14);
        fault("end;", 2, 0);
        fault("loop 2;end;end;", 2, 11);
        fault("loop 2;", 2, 7);
        fault("loop 2;stop;  ", 2, 14);
        fault("loop 2;end", 2, 10);
        fault("when says eva;loop 2;end;", 2, 25);
        fault("stop stop;", 2, 5);
    }

    private static void faultsOfNames() {
        fault("learn eve one;", 3, 6);
        fault("learn one one;", 3, 6);
        fault("learn bob one;", 3, 6);
        fault("learn eva eva;", 3, 10);
        fault("learn eva six;", 3, 10);
        fault("learn eva bob;", 3, 10);
        fault("lose one 99;", 3, 5);
        fault("fate one;", 3, 5);
        fault("rest ivo 0;", 3, 5);
        fault("pay ivo 0;", 3, 4);
        fault("when says ivo;", 3, 10);
        fault("when long ivo;", 3, 10);
        fault("when knows ivo;", 3, 11);
        fault("when knows eva ida;", 3, 15);
    }

    private static void faultsOfNumbers() {
        fault("lose eva 12;", 4, 9);
        fault("rest eva 0;", 4, 9);
        fault("rest eva 100;", 4, 9);
        fault("pay eva 0;", 4, 8);
        fault("pay eva 100;", 4, 8);
        fault("when long eva = 13;", 4, 16);
        fault("loop 0;", 4, 5);
        fault("loop 100;", 4, 5);
    }

    private static String stops(int many) {
        return "stop;".repeat(many);
    }

    private static void faultsOfMany() {
        LetterNames x = Check.of(HALL);
        check.taken("30 steps", x, Check.age(x, stops(30)), 30);
        check.taken("30 steps and an end", x, Check.age(x, "loop 1;" + stops(29) + "end;"), 30);
        fault(stops(30) + "stop", 6, 150);
        fault(stops(30) + " eva", 2, 151);
        fault(stops(30) + "end;", 2, 150);
        fault("loop 1;loop 1;loop 1;loop", 7, 21);
        fault("loop 1;loop 1;when says eva;when", 7, 28);
        fault("loop 1;loop 1;end;loop 1;loop 1;end;end;end;end;", 2, 44);
        fault("loop 1;loop 1;loop 1;" + stops(27) + "loop", 6, 156);
        check.taken("three within", x, Check.age(x, "loop 1;loop 1;loop 1;end;loop 1;end;end;end;"), 4);
    }

    private static void lived(LetterNames x, int missed, int learnt, int lost, int left) {
        check.taken("lived(0)", x, x.lived(0), missed);
        check.taken("lived(1)", x, x.lived(1), learnt);
        check.taken("lived(2)", x, x.lived(2), lost);
        check.taken("lived(3)", x, x.lived(3), left);
    }

    private static void steps() {
        LetterNames x = Check.of(HALL);
        Check.age(x, "learn eva two;learn ida two;rest ida 99;pay ida 99;learn ida one;lose ida 0;learn ida qua;");
        check.taken("live(0)", x, x.live(0), 7);
        lived(x, 0, 4, 1, 0);
        check.taken("eva's clock", x, x.child(0, 2), 1);
        check.taken("ida's clock", x, x.child(1, 2), 3 + 99 + 5 + 2);
        check.taken("ida's purse", x, x.child(1, 1), 94);
        check.taken("ida knows", x, x.child(1, 4), 9);
        check.taken("ida's name", x, x.letter(1, 0, 1), 0);
        check.taken("live(0) goes on from there", x, x.live(0), 7);
        lived(x, 3, 1, 1, 0);
    }

    private static void missed() {
        LetterNames x = Check.of("lesson a gives a takes 1 costs 1;lesson b gives b takes 1 needs a;child p;child q purse 999;");
        Check.age(x, "learn p a;learn p b;lose p 0;lose p 11;learn q a;learn q a;");
        check.taken("live(0)", x, x.live(0), 6);
        lived(x, 5, 1, 0, 0);
        Check.age(x, "loop 99;pay q 99;end;");
        check.taken("live(0)", x, x.live(0), 100);
        // 998 and 99 times 99 would be 10,799: the purse holds 90 of them.
        lived(x, 99 - 90, 0, 0, 0);
        check.taken("the purse", x, x.child(1, 1), 998 + 90 * 99);
    }

    private static void test(String test, boolean holds) {
        LetterNames x = Check.of(HALL);
        Check.learnAll(x, 0, 1, 0);
        check.taken("age", x, Check.age(x, "when " + test + ";rest ida 1;end;rest eva 1;"), 3);
        check.taken(test, x, x.live(0), holds ? 3 : 2);
        check.taken(test, x, x.child(1, 2), holds ? 1 : 0);
    }

    private static void tests() {
        test("long eva < 2", false);
        test("long eva < 3", true);
        test("long eva > 2", false);
        test("long eva > 1", true);
        test("long eva = 2", true);
        test("long eva = 1", false);
        test("long eva = 3", false);
        test("long ida = 0", true);
        test("says eva", true);
        test("says ida", false);
        test("knows eva one", true);
        test("knows eva two", true);
        test("knows eva tri", false);
        test("knows eva qua", false);
        test("knows ida one", false);
    }

    private static void loops() {
        LetterNames x = Check.of(HALL);
        Check.age(x, "loop 3;rest eva 1;loop 2;rest ida 1;end;end;rest eva 10;");
        check.taken("live(0)", x, x.live(0), 1 + 3 * (1 + 1 + 2) + 1);
        check.taken("eva's clock", x, x.child(0, 2), 13);
        check.taken("ida's clock", x, x.child(1, 2), 6);
        Check.age(x, "loop 99;end;loop 1;end;");
        check.taken("empty loops", x, x.live(0), 2);
        Check.age(x, "loop 5;when says eva;rest eva 1;end;end;");
        check.taken("a when in a loop", x, x.live(0), 6);
    }

    private static void stops() {
        LetterNames x = Check.of(HALL);
        Check.age(x, "loop 9;rest eva 1;when long eva = 0;loop 9;stop;end;end;end;rest eva 9;");
        check.taken("live(0)", x, x.live(0), 5);
        lived(x, 0, 0, 0, 0);
        check.taken("eva's clock", x, x.child(0, 2), 1);
    }

    private static void atMost() {
        LetterNames x = Check.of(HALL);
        Check.age(x, "loop 99;rest eva 1;rest eva 1;rest eva 1;end;rest eva 1;rest eva 1;");
        check.taken("300 steps", x, x.live(0), 300);
        lived(x, 0, 0, 0, 0);
        check.taken("eva's clock", x, x.child(0, 2), 299);
        Check.age(x, "loop 99;rest eva 1;rest eva 1;rest eva 1;end;rest eva 1;rest eva 1;rest eva 1;");
        check.taken("301 steps", x, x.live(0), 300);
        lived(x, 0, 0, 0, 1);
        check.taken("eva's clock", x, x.child(0, 2), 299 + 299);
        Check.age(x, "loop 99;rest eva 1;rest eva 1;rest eva 1;end;rest eva 1;stop;rest eva 1;");
        check.taken("the 300th is a stop", x, x.live(0), 300);
        lived(x, 0, 0, 0, 0);
        Check.age(x, "loop 99;rest eva 1;rest eva 1;rest eva 1;end;rest eva 1;loop 99;end;");
        check.taken("the 300th is an empty loop", x, x.live(0), 300);
        lived(x, 0, 0, 0, 0);
        Check.age(x, "loop 99;rest eva 1;rest eva 1;rest eva 1;end;rest eva 1;loop 99;stop;end;");
        check.taken("the 301st is within a loop", x, x.live(0), 300);
        lived(x, 0, 0, 0, 1);
        Check.age(x, "loop 99;loop 99;loop 99;end;end;end;");
        check.taken("loops of loops", x, x.live(0), 300);
        lived(x, 0, 0, 0, 1);
        Check.age(x, "loop 60;rest eva 1;rest eva 1;rest eva 1;rest eva 1;rest eva 1;end;");
        check.taken("the last of a loop is left", x, x.live(0), 300);
        lived(x, 0, 0, 0, 1);
        Check.age(x, "loop 1;loop 99;rest eva 1;rest eva 1;rest eva 1;end;rest eva 1;when long eva > 0;stop;end;end;");
        check.taken("the 301st would be a when", x, x.live(0), 300);
        lived(x, 0, 0, 0, 1);
    }

    /** The draws of a seed, as the document tells them. */
    private static int draw(int[] s, int by) {
        s[0] = (s[0] * 2887 + 10477) % 65536;
        return s[0] / 8 % by;
    }

    private static void fates() {
        int chosen = 0;
        int drawn = 0;
        int lost = 0;
        for (int seed = 0; seed < 60; seed++) {
            LetterNames x = Check.of(HALL);
            LetterNames y = Check.of(HALL);
            Check.learnAll(x, 0, 1, 0);
            Check.learnAll(y, 0, 1, 0);
            Check.age(x, "fate eva;fate eva;");
            int[] s = {seed};
            for (int fate = 0; fate < 2; fate++) {
                int what = draw(s, 16);
                int ready = y.ready(0, 1);
                if (what < 8) {
                    y.learn(0, y.choice(0));
                    chosen++;
                } else if (what < 14) {
                    int left = draw(s, Integer.bitCount(ready));
                    int l = 0;
                    for (int i = 0; i < 12; i++) {
                        if ((ready >> i & 1) == 1 && left-- == 0) {
                            l = i;
                        }
                    }
                    y.learn(0, l);
                    drawn++;
                } else {
                    y.lose(0, draw(s, y.child(0, 3)));
                    lost++;
                }
            }
            check.taken("live(" + seed + ")", x, x.live(seed), 2);
            check.taken("missed", x, x.lived(0), 0);
            for (int what = 0; what < 5; what++) {
                check.due("child behind seed " + seed, x.child(0, what), y.child(0, what));
            }
            for (int p = 0; p < 4; p++) {
                check.due("letter behind seed " + seed, x.letter(0, p, 1), y.letter(0, p, 1));
            }
        }
        check.due("some of each", chosen > 0 && drawn > 0 && lost > 0, true);
    }

    /** By nothing nothing is drawn: the second fate has the second draw. */
    private static void fatesByNothing() {
        int missed = 0;
        for (int seed = 0; seed < 60; seed++) {
            LetterNames x = Check.of("lesson a gives a takes 1 costs 1;lesson b gives b takes 1;lesson c gives c takes 9;child p;child q;");
            Check.learnAll(x, 0, 1, 2);
            Check.age(x, "fate p;fate q;");
            int[] s = {seed};
            int what = draw(s, 16);
            if (what >= 14) {
                continue;
            }
            missed++;
            int second = draw(s, 16);
            int wanted = second < 8 ? 1 : second < 14 ? 1 + draw(s, 2) : -1;
            check.taken("live(" + seed + ")", x, x.live(seed), 2);
            check.taken("missed", x, x.lived(0), wanted == -1 ? 2 : 1);
            check.taken("q knows", x, x.child(1, 4), wanted == -1 ? 0 : 1 << wanted);
            check.taken("p knows what it knew", x, x.child(0, 4), 6);
        }
        check.due("some missed", missed > 0, true);
    }

    private static void refused() {
        LetterNames x = Check.of(HALL);
        check.refused("live(-1) without an age", x, x.live(-1), 5);
        check.refused("live(10000) without an age", x, x.live(10000), 5);
        check.refused("live(0) without an age", x, x.live(0), 8);
        check.refused("lived(4)", x, x.lived(4), 5);
        check.refused("lived(-1)", x, x.lived(-1), 5);
        check.refused("lived(3)", x, x.lived(3), 8);
        check.denied("odds(2, -1, 0)", x, x.odds(2, -1, 0), 2);
        check.denied("odds(-1, 0, 1)", x, x.odds(-1, 0, 1), 2);
        check.denied("odds(0, -1, 1)", x, x.odds(0, -1, 1), 5);
        check.denied("odds(0, 0, 0)", x, x.odds(0, 0, 0), 5);
        check.denied("odds(0, 0, 21)", x, x.odds(0, 0, 21), 5);
        check.denied("odds(0, 9999, 2)", x, x.odds(0, 9999, 2), 5);
        check.denied("odds(0, 9981, 20)", x, x.odds(0, 9981, 20), 5);
        check.denied("odds(0, 10000, 1)", x, x.odds(0, 10000, 1), 5);
        check.denied("odds(0, highest, 20)", x, x.odds(0, Integer.MAX_VALUE, 20), 5);
        check.denied("odds(0, 0, highest)", x, x.odds(0, 1, Integer.MAX_VALUE), 5);
        check.denied("odds without an age", x, x.odds(0, 0, 1), 8);
        Check.age(x, "fate eva;");
        check.taken("live(9999)", x, x.live(9999), 1);
        check.agreed("odds(0, 9999, 1)", x, x.odds(0, 9999, 1));
        check.agreed("odds(0, 9980, 20)", x, x.odds(0, 9980, 20));
    }

    private static void kept() {
        LetterNames x = Check.of(HALL);
        Check.age(x, "learn eva two;learn eva two;lose eva 0;");
        x.live(0);
        lived(x, 1, 1, 1, 0);
        check.refused("live(-1)", x, x.live(-1), 5);
        lived(x, 1, 1, 1, 0);
        Check.age(x, "rest eva 1;");
        x.odds(0, 0, 3);
        lived(x, 1, 1, 1, 0);
        Check.school(x, "");
        check.refused("live(0) without an age", x, x.live(0), 8);
        lived(x, 1, 1, 1, 0);
    }

    private static void odds() {
        LetterNames x = Check.of(HALL);
        Check.age(x, "fate eva;fate eva;fate ida;rest ida 3;");
        x.mark();
        int good = 0;
        for (int seed = 40; seed < 60; seed++) {
            x.live(seed);
            good += x.said(0);
            x.back();
            x.mark();
        }
        String ahead = Check.all(x);
        int shared = java.math.BigInteger.valueOf(good).gcd(java.math.BigInteger.valueOf(20)).intValue();
        check.fraction("odds(0, 40, 20)", x, x.odds(0, 40, 20), good / shared, 20 / shared);
        check.due("neither 0 nor 1", good > 0 && good < 20, true);
        String behind = Check.all(x);
        check.due("all stays as it is", ahead.substring(ahead.indexOf(" fault")).equals(behind.substring(behind.indexOf(" fault"))), true);
        Check.age(x, "");
        check.fraction("odds of an empty name", x, x.odds(0, 0, 20), 0, 1);
        Check.learnAll(x, 0, 1);
        check.fraction("odds of a name that is said", x, x.odds(0, 0, 20), 1, 1);
    }
}
