/** Promises 36 to 47: lives, told names, orders, reach, what is sayable, the root. */
final class NamesTest {
    private static final Check check = new Check("NamesTest");
    private static final String HALL =
        "lesson one gives a takes 5 costs 10;lesson two gives n takes 3;lesson tri gives n takes 4 costs 2 needs two;"
        + "lesson qua gives a takes 2 needs one;lesson fiv gives s takes 6 costs 1 needs two qua;"
        + "child eva gift 2 purse 99;child ida;sounds 1;";
    private static final String FREE =
        "lesson a gives a takes 9 costs 1;lesson b gives a takes 1 costs 9;lesson c gives a takes 5 costs 5;lesson d gives b takes 1 needs c;child k gift 9 purse 99;";

    public static void main(String[] args) {
        lives();
        livesRefused();
        toldRefused();
        toldNames();
        freeNames();
        firsts();
        goings();
        childrensLives();
        orders();
        largest();
        largestSayable();
        reaches();
        sayables();
        roots();
        check.finish();
    }

    private static void lives() {
        LetterNames x = Check.of(HALL);
        Check.lay(x, 0, 1, 0, 3, 4, 2);
        check.refused("a life that can be", x, x.life(0, 5), 8);
        check.refused("a life that can be", x, x.life(0, 1), 8);
        Check.lay(x, 0, 1, 0, 1, 4, 3);
        check.taken("told twice", x, x.life(0, 5), 2);
        check.refused("ahead of that", x, x.life(0, 2), 8);
        Check.lay(x, 0, 2);
        check.taken("a need not known", x, x.life(0, 1), 0);
        Check.lay(x, 0, 0, 1, 4);
        check.taken("one of two needs not known", x, x.life(0, 3), 2);
        Check.learnAll(x, 0, 1);
        Check.lay(x, 0, 2, 1);
        check.taken("from nothing on", x, x.life(0, 2), 0);
    }

    private static void livesRefused() {
        LetterNames x = Check.of(HALL);
        check.refused("life(4, 99)", x, x.life(4, 99), 1);
        check.refused("life(-1, 1)", x, x.life(-1, 1), 1);
        check.refused("life(0, 99)", x, x.life(0, 99), 3);
        Check.lay(x, 0, 2, 9);
        check.refused("life of too few", x, x.life(0, 13), 4);
        check.refused("life of too few", x, x.life(0, 3), 4);
        check.refused("life of none", x, x.life(0, 0), 5);
        check.refused("life of -1", x, x.life(0, -1), 5);
        check.refused("no lesson, ahead of what can't be", x, x.life(0, 2), 2);
        check.taken("the number behind does not matter", x, x.life(0, 1), 0);
        x.tray(1, 3, 60);
        x.write(1, 0, 99);
        check.refused("5 ahead of 2", x, x.life(1, 13), 5);
        check.refused("2", x, x.life(1, 12), 2);
        x.write(1, 0, 1L << 32);
        check.refused("a number of 64 bits", x, x.life(1, 1), 2);
        x.write(1, 0, -1);
        check.refused("-1", x, x.life(1, 1), 2);
    }

    private static void toldRefused() {
        LetterNames x = Check.of(HALL);
        told("no tray", x, 4, 99, 1);
        told("no tray", x, -1, 0, 1);
        told("a missing tray", x, 0, 99, 3);
        Check.lay(x, 0, 27, 1);
        told("too few", x, 0, 3, 4);
        told("too few", x, 0, 99, 4);
        told("below 0", x, 0, -1, 5);
        told("no letter", x, 0, 1, 5);
        told("no letter", x, 0, 2, 5);
        x.write(0, 0, 0);
        told("no letter", x, 0, 1, 5);
        x.write(0, 0, (1L << 32) + 1);
        told("a number of 64 bits", x, 0, 1, 5);
        x.write(0, 0, 1);
        x.write(0, 1, -1);
        told("-1", x, 0, 2, 5);
        check.taken("the number behind does not matter", x, x.ways(0, 1), 1);
        x.tray(1, 0, 60);
        told("thirteen", x, 1, 13, 5);
        told("no letters", x, 1, 12, 5);
        check.refused("firstAt(0) behind refused ones", x, x.firstAt(0), 8);
    }

    private static void told(String why, LetterNames x, int tray, int many, int status) {
        check.refused("soonest, " + why, x, x.soonest(tray, many), status);
        check.refused("cheapest, " + why, x, x.cheapest(tray, many), status);
        check.refused("ways, " + why, x, x.ways(tray, many), status);
        check.refused("first, " + why, x, x.first(tray, many), status);
        check.refused("goes, " + why, x, x.goes(tray, many), status);
    }

    private static void name(LetterNames x, String name, int ways, int soonest, int cheapest, int goes) {
        int many = Check.tell(x, 2, name);
        check.taken(name + " ways", x, x.ways(2, many), ways);
        check.due(name + " soonest", x.soonest(2, many), soonest);
        check.due(name + " soonest status", x.status(), ways == 0 ? 8 : 0);
        check.due(name + " cheapest", x.cheapest(2, many), cheapest);
        check.due(name + " cheapest status", x.status(), ways == 0 ? 8 : 0);
        check.due(name + " first", x.first(2, many), ways == 0 ? -1 : many);
        check.due(name + " first status", x.status(), ways == 0 ? 8 : 0);
        check.taken(name + " goes", x, x.goes(2, many), goes);
    }

    private static void toldNames() {
        LetterNames x = Check.of(HALL);
        name(x, "", 1, 0, 0, 0);
        name(x, "a", 1, 5, 10, 1);
        name(x, "n", 1, 3, 0, 1);
        name(x, "s", 0, -1, -1, 0);
        name(x, "z", 0, -1, -1, 0);
        name(x, "nanas", 1, 20, 13, 5);
        name(x, "aanns", 1, 20, 13, 5);
        name(x, "aans", 1, 16, 11, 4);
        name(x, "nas", 0, -1, -1, 2);
        name(x, "aaa", 0, -1, -1, 2);
        name(x, "aanna", 0, -1, -1, 4);
    }

    private static void freeNames() {
        LetterNames x = Check.of(FREE);
        Check.learnAll(x, 0, 0);
        name(x, "a", 3, 1, 1, 1);
        name(x, "aa", 6, 6, 6, 2);
        name(x, "ab", 1, 6, 5, 2);
        name(x, "aab", 4, 7, 6, 3);
        name(x, "aaa", 6, 15, 15, 3);
        name(x, "aaab", 6, 16, 15, 4);
        name(x, "abb", 0, -1, -1, 2);
    }

    private static void firsts() {
        LetterNames x = Check.of(FREE);
        first(x, "aab", 0, 2, 3);
        first(x, "ab", 2, 3);
        first(x, "aaab", 0, 1, 2, 3);
        check.taken("firstAt(3)", x, x.firstAt(3), 3);
        check.refused("no way", x, x.first(2, Check.tell(x, 2, "b")), 8);
        check.taken("the latest with status 0 stays", x, x.firstAt(3), 3);
        check.refused("firstAt(4)", x, x.firstAt(4), 8);
        check.refused("firstAt(-1)", x, x.firstAt(-1), 8);
        x.ways(2, 1);
        x.soonest(2, 1);
        x.sayable(2);
        check.taken("other calls do not matter", x, x.firstAt(2), 2);
        Check.school(x, "");
        check.taken("a new school does not matter", x, x.firstAt(1), 1);
        first(x, "");
        check.refused("firstAt(0) of an empty way", x, x.firstAt(0), 8);
    }

    private static void first(LetterNames x, String name, int... way) {
        check.taken("first of " + name, x, x.first(2, Check.tell(x, 2, name)), way.length);
        for (int k = 0; k < way.length; k++) {
            check.taken("firstAt(" + k + ") of " + name, x, x.firstAt(k), way[k]);
        }
        check.refused("firstAt behind " + name, x, x.firstAt(way.length), 8);
    }

    private static void goings() {
        LetterNames x = Check.of("lesson a gives a takes 1;lesson b gives a takes 1;lesson c gives b takes 1 needs a;lesson d gives c takes 1 needs b;");
        check.taken("goes", x, x.goes(0, Check.tell(x, 0, "abc")), 2);
        check.taken("goes", x, x.goes(0, Check.tell(x, 0, "acb")), 2);
        check.taken("goes", x, x.goes(0, Check.tell(x, 0, "aabc")), 4);
        check.taken("goes with fewer", x, x.goes(0, 3), 3);
        check.taken("goes with none", x, x.goes(0, 0), 0);
    }

    private static void childrensLives() {
        LetterNames x = Check.of(FREE);
        check.taken("lives of an empty name", x, x.lives(0), 1);
        Check.learnAll(x, 0, 0, 2);
        check.taken("lives", x, x.lives(0), 6);
        Check.learnAll(x, 0, 3);
        check.taken("lives", x, x.lives(0), 4);
        x.lose(0, 0);
        x.lose(0, 0);
        check.taken("no lives by a loss", x, x.lives(0), 0);
        check.refused("lives(1)", x, x.lives(1), 2);
        check.refused("lives(-1)", x, x.lives(-1), 2);
    }

    private static void orders() {
        LetterNames x = Check.of(HALL);
        long[] wanted = {1, 2, 4, 6, 9, 9, 0, 0, 0, 0, 0, 0, 0};
        for (int n = 0; n <= 12; n++) {
            check.taken("orders(" + n + ")", x, x.orders(n), wanted[n]);
        }
        check.refused("orders(13)", x, x.orders(13), 5);
        check.refused("orders(-1)", x, x.orders(-1), 5);
    }

    private static void largest() {
        StringBuilder text = new StringBuilder();
        for (int l = 0; l < 12; l++) {
            text.append("lesson ").append((char) ('a' + l)).append(" gives ").append(l % 2 == 0 ? 'a' : 'b').append(" takes 30 costs 99;");
        }
        LetterNames x = Check.of(text + "sounds 1;");
        check.taken("orders(12)", x, x.orders(12), 479001600L);
        check.taken("ways of all", x, x.ways(0, Check.tell(x, 0, "abababababab")), 720L * 720L);
        check.taken("soonest of all", x, x.soonest(0, 12), 360);
        check.taken("cheapest of all", x, x.cheapest(0, 12), 1188);
        check.fraction("sayable(12)", x, x.sayable(12), 1, 462);
        LetterNames y = Check.of(text.toString().replace("gives b", "gives e") + "sounds 9;");
        check.taken("ways of all", y, y.orders(12), 479001600L);
        check.fraction("sayable(9)", y, y.sayable(9), 1, 1);
        check.fraction("sayable(10)", y, y.sayable(10), 0, 1);
        check.fraction("sayable(12)", y, y.sayable(12), 0, 1);
    }

    /** Twelve LESSONS without NEEDS: a row is a pattern of the two kinds, filled with LESSONS of each in any order. */
    private static void largestSayable() {
        for (int sounds = 1; sounds <= 9; sounds++) {
            for (int vowels = 0; vowels <= 12; vowels++) {
                StringBuilder text = new StringBuilder("sounds " + sounds + ";");
                for (int l = 0; l < 12; l++) {
                    text.append("lesson ").append((char) ('a' + l)).append(" gives ").append("aeioubcdfghz".charAt(l < vowels ? l % 5 : 5 + l % 7)).append(" takes 1;");
                }
                LetterNames x = Check.of(text.toString());
                for (int n = 1; n <= 12; n++) {
                    long good = 0;
                    for (int pattern = 0; pattern < 1 << n; pattern++) {
                        int ofVowels = Integer.bitCount(pattern);
                        good += longestRun(pattern, n) > sounds ? 0 : rows(vowels, ofVowels) * rows(12 - vowels, n - ofVowels);
                    }
                    check.agreed("sayable(" + n + ") of " + text, x, x.sayable(n));
                    check.due("its part of all orders, of " + text, x.top() * (rows(12, n) / x.bottom()), good);
                    check.due("it is a part of them, of " + text, rows(12, n) % x.bottom(), 0);
                }
            }
        }
    }

    /** How many rows of so many of the things there are. */
    private static long rows(int things, int many) {
        long rows = 1;
        for (int i = 0; i < many; i++) {
            rows *= Math.max(0, things - i);
        }
        return rows;
    }

    private static int longestRun(int pattern, int n) {
        int longest = 0;
        for (int from = 0; from < n; from++) {
            int to = from;
            while (to < n && (pattern >> to & 1) == (pattern >> from & 1)) {
                to++;
            }
            longest = Math.max(longest, to - from);
        }
        return longest;
    }

    private static void reaches() {
        LetterNames x = Check.of(HALL);
        int[] wanted = {1, 1, 2, 2, 4};
        for (int l = 0; l < 5; l++) {
            check.taken("reach(" + l + ")", x, x.reach(l), wanted[l]);
        }
        check.refused("reach(5)", x, x.reach(5), 2);
        check.refused("reach(-1)", x, x.reach(-1), 2);
        LetterNames y = Check.of("lesson a gives a takes 1;lesson b gives a takes 1 needs a;lesson c gives a takes 1 needs a b;lesson d gives a takes 1 needs c;");
        check.taken("reach(3)", y, y.reach(3), 4);
    }

    private static void sayables() {
        LetterNames x = Check.of(HALL);
        check.fraction("sayable(1)", x, x.sayable(1), 1, 1);
        check.fraction("sayable(2)", x, x.sayable(2), 1, 2);
        check.fraction("sayable(3)", x, x.sayable(3), 1, 3);
        check.fraction("sayable(4)", x, x.sayable(4), 1, 3);
        check.fraction("sayable(5)", x, x.sayable(5), 1, 9);
        check.denied("sayable(0)", x, x.sayable(0), 5);
        check.denied("sayable(13)", x, x.sayable(13), 5);
        check.denied("sayable(6)", x, x.sayable(6), 8);
        check.due("the fraction stays", x.bottom(), 9);
    }

    private static void roots() {
        LetterNames x = Check.of(HALL);
        check.taken("root()", x, x.root(), 0);
        Check.school(x, "lesson a gives a takes 1;lesson b gives a takes 1;");
        check.taken("none is needed", x, x.root(), 0);
        Check.school(x, "lesson a gives a takes 1;lesson b gives a takes 1;lesson c gives a takes 1 needs b;");
        check.taken("root()", x, x.root(), 1);
        Check.school(x, "lesson a gives a takes 1;lesson b gives a takes 1;lesson c gives a takes 1 needs b;lesson d gives a takes 1 needs c;"
            + "lesson e gives a takes 1 needs a;");
        check.taken("by others, too", x, x.root(), 1);
        Check.school(x, "child a;");
        check.refused("no lessons", x, x.root(), 8);
    }
}
