/** Promises 36 to 47, sentence by sentence, at their bounds: lives, told names, orders, reach, what is sayable, the root. */
final class NameBoundsTest {
    private static final Check check = new Check("NameBoundsTest");
    private static final String[] TOLD = {"soonest", "cheapest", "ways", "first", "goes"};
    private static final int[] TOLD_BY = {37, 38, 39, 40, 42};
    private static final long FACTORIAL_OF_12 = 479001600L;

    public static void main(String[] args) {
        lifeRefused();
        lifeOrder();
        lifeOfHowMany();
        lifePlaces();
        toldRefused();
        toldOrder();
        toldOfHowMany();
        toldLetters();
        toldOfNone();
        toldOfNobody();
        toldWithoutAWay();
        toldOfTwelveWithoutAWay();
        lessonsThatAreGone();
        daysAndCosts();
        mostWays();
        firstByNumbers();
        firstAt();
        goesHowFar();
        lives();
        orders();
        reach();
        sayableRefused();
        sayable();
        root();
        Run.finish(check, 36, 37, 38, 39, 40, 41, 42, 43, 44, 45, 46, 47);
    }

    private static Run of(int promise, String sentence) {
        return Run.of(check, promise, sentence);
    }

    private static Run of(int promise, String sentence, String school) {
        return Run.of(check, promise, sentence, school);
    }

    private static Run rich(int promise, String sentence) {
        return Run.rich(check, promise, sentence);
    }

    /** So many LESSONS, all of which give one LETTER, each as dear as can be. */
    private static String same(int many, String letter) {
        StringBuilder text = new StringBuilder();
        for (int l = 0; l < many; l++) {
            text.append("lesson ").append((char) ('a' + l)).append(" gives ").append(letter).append(" takes 30 costs 99;");
        }
        return text.toString();
    }

    /** So many LESSONS, each of which NEEDS the one ahead of it. */
    private static String chain(int many) {
        StringBuilder text = new StringBuilder();
        for (int l = 0; l < many; l++) {
            text.append("lesson ").append((char) ('a' + l)).append(" gives ").append((char) ('a' + l)).append(" takes 1");
            text.append(l == 0 ? ";" : " needs " + (char) ('a' + l - 1) + ";");
        }
        return text.toString();
    }

    // ---- life

    private static void lifeRefused() {
        rich(36, "no such TRAY").no(1, "life(-1, 1)", "life(4, 1)", "life(MIN, 1)", "life(MAX, 1)");
        rich(36, "a MISSING one").no(3, "life(2, 1)");
        rich(36, "too few numbers").no(4, "life(0, 3)", "life(0, 12)");
        rich(36, "fewer than 1").no(5, "life(0, 0)", "life(0, -1)", "life(0, MIN)");
        rich(36, "no LESSON").lay(2, 5, -1, 1L << 32, Long.MIN_VALUE, Long.MAX_VALUE).no(2, "life(2, 1)", "life(2, 5)").go("write(2, 0, -1)")
            .no("life(2, 1)", 2).go("write(2, 0, 4294967296)").no("life(2, 1)", 2).go("write(2, 0, 4)").is("life(2, 1)", 0);
        rich(36, "8: it can").no(8, "life(1, 1)", "life(1, 2)");
        rich(36, "it changes nothing").same("life(0, 1)", 0).same("life(0, 2)", 0);
        of(36, "no LESSONS at all").go("tray(0, 0, 1)").no("life(0, 1)", 2);
    }

    private static void lifeOrder() {
        rich(36, "1 ahead of 4 and 5").no(1, "life(4, 99)", "life(4, 0)");
        rich(36, "3 ahead of 4 and 5").no(3, "life(2, 99)", "life(2, 0)", "life(2, -1)");
        rich(36, "4 ahead of 5 and 2").no(4, "life(3, 4)", "life(3, 13)", "life(3, MAX)");
        rich(36, "5 ahead of 2").go("tray(2, 0, 13)", "write(2, 0, 99)").no("life(3, 0)", 5).no("life(2, 13)", 5).no("life(2, 12)", 2);
        rich(36, "2 ahead of a LESSON that can't be").lay(2, 4, 4, 99).no("life(2, 3)", 2).is("life(2, 2)", 0);
        rich(36, "2 ahead of 8").lay(2, 0, 1, -1).no("life(2, 3)", 2).no("life(2, 2)", 8);
    }

    private static void lifeOfHowMany() {
        Run r = of(36, "1 to 12 numbers", chain(12));
        r.lay(0, 0, 1, 2, 3, 4, 5, 6, 7, 8, 9, 10, 11, 0).no(8, "life(0, 1)", "life(0, 12)").no(5, "life(0, 0)", "life(0, 13)").no("life(0, 14)", 4);
        of(36, "4 where the TRAY has 12", chain(12)).lay(0, 0, 1, 2, 3, 4, 5, 6, 7, 8, 9, 10, 11).no("life(0, 12)", 8).no("life(0, 13)", 4);
        of(36, "5 where the TRAY has 60", chain(12)).go("tray(0, 0, 60)").no(5, "life(0, 13)", "life(0, 60)").no("life(0, 61)", 4)
            .is("life(0, 12)", 1);
    }

    private static void lifePlaces() {
        of(36, "the first place", chain(12)).lay(0, 1).is("life(0, 1)", 0);
        of(36, "the last of twelve: told twice", chain(12)).lay(0, 0, 1, 2, 3, 4, 5, 6, 7, 8, 9, 10, 0).is("life(0, 12)", 11).no("life(0, 11)", 8);
        of(36, "the last of twelve: a NEED not KNOWN", chain(12)).lay(0, 0, 1, 2, 3, 4, 5, 6, 7, 8, 9, 11, 10).is("life(0, 12)", 10);
        of(36, "from nothing on", chain(2) + "child kim;").go("learn(0, 0)").lay(0, 1, 0).is("life(0, 2)", 0);
        of(36, "money not minded", same(2, "a") + "child kim;").lay(0, 1, 0).no("life(0, 2)", 8);
        of(36, "numbers behind do not matter", chain(2)).lay(0, 0, 99).no("life(0, 1)", 8);
    }

    // ---- told names

    private static void toldRefused() {
        for (int i = 0; i < TOLD.length; i++) {
            String call = TOLD[i];
            rich(TOLD_BY[i], "no such TRAY").no(1, call + "(-1, 1)", call + "(4, 1)", call + "(MIN, 1)", call + "(MAX, 1)");
            rich(TOLD_BY[i], "a MISSING one").no(3, call + "(2, 1)", call + "(2, 0)");
            rich(TOLD_BY[i], "too few numbers").no(4, call + "(3, 4)", call + "(3, 12)", call + "(0, 3)");
            rich(TOLD_BY[i], "below 0").no(5, call + "(3, -1)", call + "(3, MIN)");
            rich(TOLD_BY[i], "a number below 1").go("write(3, 2, 0)").no(5, call + "(3, 3)").go("write(3, 2, -1)").no(5, call + "(3, 3)");
            rich(TOLD_BY[i], "a number above 26").go("write(3, 2, 27)").no(5, call + "(3, 3)").go("write(3, 0, 27)").no(5, call + "(3, 1)");
        }
    }

    private static void toldOrder() {
        for (int i = 0; i < TOLD.length; i++) {
            String call = TOLD[i];
            rich(TOLD_BY[i], "1 ahead of 4 and 5").no(1, call + "(4, 99)", call + "(4, -1)");
            rich(TOLD_BY[i], "3 ahead of 4 and 5").no(3, call + "(2, 99)", call + "(2, -1)");
            rich(TOLD_BY[i], "4 ahead of 5").no(4, call + "(3, 13)", call + "(3, MAX)").go("write(3, 0, 27)").no(4, call + "(3, 4)", call + "(3, 13)");
            rich(TOLD_BY[i], "5 ahead of 8").lay(2, 26, 0).no(call + "(2, 2)", 5);
        }
    }

    private static void toldOfHowMany() {
        for (int i = 0; i < TOLD.length; i++) {
            Run r = of(TOLD_BY[i], "0 to 12 LETTERS", same(12, "a"));
            long[] due = {360, 12 * 99, FACTORIAL_OF_12, 12, 12};
            r.lay(0, 1, 1, 1, 1, 1, 1, 1, 1, 1, 1, 1, 1, 1).is(TOLD[i] + "(0, 12)", due[i]).no(TOLD[i] + "(0, 13)", 5).no(TOLD[i] + "(0, 14)", 4);
            r.lay(0, 1, 1, 1, 1, 1, 1, 1, 1, 1, 1, 1, 1).is(TOLD[i] + "(0, 12)", due[i]).no(TOLD[i] + "(0, 13)", 4).no(TOLD[i] + "(0, -1)", 5);
            r.go("tray(0, 0, 60)").no(5, TOLD[i] + "(0, 60)", TOLD[i] + "(0, 13)", TOLD[i] + "(0, 12)", TOLD[i] + "(0, 1)").no(TOLD[i] + "(0, 61)", 4);
        }
    }

    private static void toldLetters() {
        for (int i = 0; i < TOLD.length; i++) {
            Run r = of(TOLD_BY[i], "LETTERS 1 to 26", "lesson p gives a takes 1 costs 1;lesson q gives z takes 1 costs 1;").go("tray(0, 3, 2)");
            for (long letter : new long[] {1, 26}) {
                r.go("write(0, 0, " + letter + ")").is(TOLD[i] + "(0, 1)", 1);
            }
            long[] wrong = {0, 27, -1, -26, 257, (1L << 32) + 1, (1L << 32) + 26, Long.MIN_VALUE, Long.MIN_VALUE + 1, Long.MAX_VALUE};
            for (long letter : wrong) {
                r.go("write(0, 0, " + letter + ")").no(TOLD[i] + "(0, 1)", 5);
            }
            r.go("write(0, 0, 1)", "write(0, 1, 27)").is(TOLD[i] + "(0, 1)", 1).no(TOLD[i] + "(0, 2)", 5);
            of(TOLD_BY[i], "a LETTER as it was cut", "lesson p gives a takes 1 costs 1;").go("tray(0, 0, 1)", "write(0, 0, 257)").is(TOLD[i] + "(0, 1)", 1);
        }
    }

    private static void toldOfNone() {
        long[] due = {0, 0, 1, 0, 0};
        for (int i = 0; i < TOLD.length; i++) {
            rich(TOLD_BY[i], "no LETTERS").is(TOLD[i] + "(3, 0)", due[i]);
            of(TOLD_BY[i], "no LETTERS of an empty TRAY, a SCHOOL of nobody").go("tray(0, 0, 0)").is(TOLD[i] + "(0, 0)", due[i]).no(TOLD[i] + "(0, 1)", 4);
        }
    }

    private static void toldOfNobody() {
        for (int i = 0; i < TOLD.length; i++) {
            Run r = of(TOLD_BY[i], "a SCHOOL without LESSONS").lay(0, 1);
            if (TOLD[i].equals("ways") || TOLD[i].equals("goes")) {
                r.is(TOLD[i] + "(0, 1)", 0);
            } else {
                r.no(TOLD[i] + "(0, 1)", 8);
            }
        }
    }

    private static void toldWithoutAWay() {
        for (int i = 0; i < TOLD.length; i++) {
            Run noSuch = rich(TOLD_BY[i], "no WAY: no LESSON gives that").lay(2, 14, 26);
            Run needed = rich(TOLD_BY[i], "no WAY: a NEED is not KNOWN").lay(2, 14, 19);
            Run twice = rich(TOLD_BY[i], "no WAY: no LESSON twice").lay(2, 1, 1, 1);
            if (TOLD[i].equals("ways")) {
                noSuch.same("ways(2, 2)", 0);
                needed.same("ways(2, 2)", 0);
                twice.same("ways(2, 3)", 0).same("ways(2, 2)", 1);
            } else if (TOLD[i].equals("goes")) {
                noSuch.same("goes(2, 2)", 1);
                needed.same("goes(2, 2)", 1);
                twice.same("goes(2, 3)", 2).same("goes(2, 2)", 2);
            } else {
                noSuch.no(TOLD[i] + "(2, 2)", 8);
                needed.no(TOLD[i] + "(2, 2)", 8);
                twice.no(TOLD[i] + "(2, 3)", 8);
            }
        }
    }

    private static void toldOfTwelveWithoutAWay() {
        for (int i = 0; i < TOLD.length; i++) {
            Run r = of(TOLD_BY[i], "no WAY by any of twelve LESSONS", same(12, "a")).lay(0, 1, 1, 2);
            Run last = of(TOLD_BY[i], "no WAY to the twelfth LETTER", same(12, "a")).lay(0, 1, 1, 1, 1, 1, 1, 1, 1, 1, 1, 1, 2);
            if (TOLD[i].equals("ways")) {
                r.is("ways(0, 3)", 0);
                last.is("ways(0, 12)", 0);
            } else if (TOLD[i].equals("goes")) {
                r.is("goes(0, 3)", 2);
                last.is("goes(0, 12)", 11);
            } else {
                r.no(TOLD[i] + "(0, 3)", 8);
                last.no(TOLD[i] + "(0, 12)", 8);
            }
        }
    }

    /** Three SCHOOLS, since one that was replaced may be used again. */
    private static Run thirdSchool(int promise) {
        return of(promise, "LESSONS of a SCHOOL ahead are none", same(12, "a")).school(same(12, "a")).school("lesson p gives b takes 1;child kim;");
    }

    private static void lessonsThatAreGone() {
        for (int i = 0; i < TOLD.length; i++) {
            Run r = thirdSchool(TOLD_BY[i]).lay(0, 2, 1);
            if (TOLD[i].equals("ways") || TOLD[i].equals("goes")) {
                r.is(TOLD[i] + "(0, 2)", TOLD[i].equals("ways") ? 0 : 1);
            } else {
                r.no(TOLD[i] + "(0, 2)", 8);
            }
        }
        thirdSchool(36).lay(0, 0, 1).no("life(0, 2)", 2);
        thirdSchool(44).is("orders(1)", 1).is("orders(2)", 0);
        thirdSchool(45).is("reach(0)", 1).no("reach(1)", 2);
        thirdSchool(46).fraction("sayable(1)", 1, 1).no("sayable(2)", 8);
        thirdSchool(47).is("root()", 0);
        thirdSchool(43).go("learn(0, 0)").is("lives(0)", 1);
    }

    private static void daysAndCosts() {
        String school = "lesson p gives a takes 30 costs 0;lesson q gives a takes 1 costs 99;lesson r gives b takes 1 needs p;child kim gift 9;";
        of(37, "the fewest DAYS, without GIFTS", school).lay(0, 1, 2).is("soonest(0, 1)", 1).is("soonest(0, 2)", 31);
        of(38, "the least COSTS, money not minded", school).lay(0, 1, 1).is("cheapest(0, 1)", 0).is("cheapest(0, 2)", 99);
        of(37, "from nothing on, whatever is KNOWN", school).go("learn(0, 0)").lay(0, 1, 2).is("soonest(0, 2)", 31);
        rich(37, "it changes nothing").lay(2, 14, 1).same("soonest(2, 2)", 8);
        rich(38, "it changes nothing").lay(2, 14, 1).same("cheapest(2, 2)", 10);
    }

    private static void mostWays() {
        of(39, "as many WAYS as can be", same(12, "z")).lay(0, 26, 26, 26, 26, 26, 26, 26, 26, 26, 26, 26, 26).is("ways(0, 12)", FACTORIAL_OF_12)
            .is("ways(0, 11)", FACTORIAL_OF_12).is("ways(0, 1)", 12).is("ways(0, 0)", 1);
    }

    private static void firstByNumbers() {
        String school = "lesson p gives a takes 30;lesson q gives a takes 1;lesson r gives b takes 1 needs q;";
        of(40, "the FIRST by LESSONS' numbers", school).lay(0, 1, 1).is("first(0, 2)", 2).is("firstAt(0)", 0).is("firstAt(1)", 1);
        of(40, "the FIRST that goes to the end", school).lay(0, 1, 2).is("first(0, 2)", 2).is("firstAt(0)", 1).is("firstAt(1)", 2);
        Run r = of(40, "twelve LESSONS", same(12, "a")).lay(0, 1, 1, 1, 1, 1, 1, 1, 1, 1, 1, 1, 1).is("first(0, 12)", 12);
        for (int k = 0; k < 12; k++) {
            r.is("firstAt(" + k + ")", k);
        }
        r.no("firstAt(12)", 8);
    }

    private static void firstAt() {
        of(41, "8: none such ahead of any first()").no(8, "firstAt(0)", "firstAt(-1)", "firstAt(1)");
        rich(41, "the first and the last").same("firstAt(0)", 1).same("firstAt(1)", 0).same("firstAt(2)", 2);
        rich(41, "8: none such").no(8, "firstAt(-1)", "firstAt(3)", "firstAt(12)", "firstAt(MIN)", "firstAt(MAX)");
        rich(41, "the latest with STATUS 0: 8 does not matter").go("write(3, 0, 26)").no("first(3, 3)", 8).is("firstAt(2)", 2);
        rich(41, "the latest with STATUS 0: 5 does not matter").go("write(3, 0, 27)").no("first(3, 3)", 5).is("firstAt(2)", 2);
        rich(41, "the latest with STATUS 0: 1, 3, 4 do not matter").no("first(4, 3)", 1).no("first(2, 3)", 3).no("first(3, 4)", 4).is("firstAt(2)", 2);
        rich(41, "a shorter one").is("first(3, 1)", 1).is("firstAt(0)", 1).no("firstAt(1)", 8);
        rich(41, "one of no LESSONS").is("first(3, 0)", 0).no("firstAt(0)", 8);
        rich(41, "other calls do not matter").go("ways(3, 1)", "goes(3, 1)", "soonest(3, 1)", "lives(0)", "orders(2)", "sayable(2)").is("firstAt(2)", 2);
    }

    private static void goesHowFar() {
        Run r = of(42, "none, some, all of its LETTERS", chain(12)).lay(0, 1, 2, 3, 4, 5, 6, 7, 8, 9, 10, 11, 12);
        for (int many = 0; many <= 12; many++) {
            r.is("goes(0, " + many + ")", many);
        }
        r.go("write(0, 11, 1)").is("goes(0, 12)", 11).go("write(0, 1, 26)").is("goes(0, 12)", 1).go("write(0, 0, 2)").is("goes(0, 12)", 0);
        rich(42, "it changes nothing").lay(2, 14, 1).same("goes(2, 2)", 2);
    }

    // ---- lives, orders, reach, what is sayable, the root

    private static void lives() {
        rich(43, "no such CHILD").no(2, "lives(-1)", "lives(3)", "lives(4)", "lives(MIN)", "lives(MAX)");
        rich(43, "of an empty NAME").same("lives(2)", 1);
        rich(43, "of its own NAME").same("lives(0)", 1).same("lives(1)", 1);
        of(43, "none, if a NEED was lost", chain(2) + "child kim;").go("learn(0, 0)", "learn(0, 1)").is("lives(0)", 1).go("lose(0, 0)").is("lives(0)", 0);
        Run r = of(43, "as many as can be", same(12, "a").replace(" costs 99", "") + "child kim;");
        long ways = 1;
        for (int l = 0; l < 12; l++) {
            ways *= 12 - l;
            r.is("learn(0, " + l + ")", l + 1).is("lives(0)", ways);
        }
        of(43, "a SCHOOL of CHILDREN alone", "child kim;").is("lives(0)", 1);
    }

    private static void orders() {
        rich(44, "0 to 12").same("orders(0)", 1).same("orders(1)", 2).same("orders(5)", 9).same("orders(6)", 0).same("orders(12)", 0);
        rich(44, "fewer, more").no(5, "orders(-1)", "orders(13)", "orders(MIN)", "orders(MAX)");
        Run r = of(44, "as many as can be", same(12, "a"));
        long all = 1;
        for (int n = 0; n <= 12; n++) {
            r.is("orders(" + n + ")", all);
            all *= 12 - n;
        }
        r.no("orders(13)", 5);
        of(44, "as few as can be", chain(12)).is("orders(0)", 1).is("orders(1)", 1).is("orders(12)", 1).no("orders(13)", 5);
        of(44, "of eleven LESSONS", same(11, "a")).is("orders(11)", 39916800L).is("orders(12)", 0);
    }

    private static void reach() {
        rich(45, "no such LESSON").no(2, "reach(-1)", "reach(5)", "reach(12)", "reach(MIN)", "reach(MAX)");
        rich(45, "it, too").same("reach(0)", 1).same("reach(2)", 2).same("reach(4)", 4);
        Run r = of(45, "1 to 12", chain(12));
        for (int l = 0; l < 12; l++) {
            r.is("reach(" + l + ")", l + 1);
        }
        r.no("reach(12)", 2);
        of(45, "each counts once", "lesson p gives a takes 1;lesson q gives a takes 1 needs p;lesson r gives a takes 1 needs p;"
            + "lesson s gives a takes 1 needs p q r;").is("reach(3)", 4);
    }

    private static void sayableRefused() {
        rich(46, "fewer than 1, more than 12").no(5, "sayable(0)", "sayable(-1)", "sayable(13)", "sayable(MIN)", "sayable(MAX)");
        rich(46, "8: there are no such ORDERS").no(8, "sayable(6)", "sayable(12)");
        of(46, "8: no LESSONS").no(8, "sayable(1)", "sayable(12)");
        of(46, "5 ahead of 8").no(5, "sayable(0)", "sayable(13)");
    }

    private static void sayable() {
        rich(46, "as many as there are LESSONS").fraction("sayable(5)", 1, 9).fraction("sayable(1)", 1, 1);
        of(46, "12 of one LETTER, 9 of which may stand", same(12, "a") + "sounds 9;").fraction("sayable(9)", 1, 1).fraction("sayable(10)", 0, 1)
            .fraction("sayable(12)", 0, 1).fraction("sayable(1)", 1, 1);
        of(46, "12 of others, 1 of which may stand", same(12, "b") + "sounds 1;").fraction("sayable(1)", 1, 1).fraction("sayable(2)", 0, 1)
            .fraction("sayable(12)", 0, 1);
        of(46, "12 in their one order", chain(12) + "sounds 3;").fraction("sayable(12)", 1, 1);
        of(46, "12 in their one order, of which one is too much", chain(12) + "sounds 2;").fraction("sayable(3)", 1, 1).fraction("sayable(4)", 0, 1)
            .fraction("sayable(12)", 0, 1);
        rich(46, "nothing but the FRACTION").fraction("sayable(2)", 1, 2).same("sayable(2)", 1);
    }

    private static void root() {
        of(47, "8: no LESSONS").no("root()", 8);
        of(47, "8: no LESSONS, but CHILDREN", "child kim;master ann;").no("root()", 8);
        of(47, "one LESSON", same(1, "a")).is("root()", 0);
        of(47, "none needs another: the first", same(12, "a")).is("root()", 0);
        of(47, "each needs the one ahead", chain(12)).is("root()", 0);
        of(47, "the last but one", same(11, "a") + "lesson l gives a takes 1 needs k;").is("root()", 10);
        of(47, "of several the first", same(10, "a") + "lesson k gives a takes 1 needs j;lesson l gives a takes 1 needs i;").is("root()", 8);
        of(47, "by others, too", same(2, "a") + "lesson p gives a takes 1 needs b;lesson q gives a takes 1 needs p;lesson r gives a takes 1 needs a;"
            + "lesson s gives a takes 1 needs p;").is("root()", 1);
        rich(47, "it changes nothing").same("root()", 0);
    }
}
