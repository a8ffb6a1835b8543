/** Promises 27 to 35: what can be said, what must be dropped, rhymes, two of one name. */
final class SoundsTest {
    private static final Check check = new Check("SoundsTest");

    public static void main(String[] args) {
        nobody();
        empty();
        //    name          sounds  said  stumbles  drop  firm  weak  vowels
        name("a",            1,      1,    -1,       0,    0,    0,    1);
        name("b",            9,      1,    -1,       0,    0,    0,    0);
        name("ab",           1,      1,    -1,       0,    1,   -1,    1);
        name("aba",          1,      1,    -1,       0,    0,    1,    2);
        name("aab",          1,      0,     1,       1,    0,   -1,    2);
        name("abb",          1,      0,     2,       1,    0,   -1,    1);
        name("aba",          2,      1,    -1,       0,    1,   -1,    2);
        name("aabaa",        2,      1,    -1,       0,    0,    2,    4);
        name("aabbaa",       2,      1,    -1,       0,    1,   -1,    4);
        name("aeiou",        2,      0,     2,       3,    0,   -1,    5);
        name("aeiou",        5,      1,    -1,       0,    1,   -1,    5);
        name("aeiou",        4,      0,     4,       1,    0,   -1,    5);
        name("xyzw",         3,      0,     3,       1,    0,   -1,    0);
        name("yaeb",         1,      0,     2,       1,    0,   -1,    2);
        name("bbbabbb",      2,      0,     2,       2,    0,   -1,    1);
        name("bbbaaaeeebbb", 2,      0,     2,       6,    0,   -1,    6);
        name("bcdfghjklmnp", 9,      0,     9,       3,    0,   -1,    0);
        name("abababababab", 1,      1,    -1,       0,    0,    1,    6);
        name("bcdabcd",      3,      1,    -1,       0,    0,    3,    1);
        rhymes("ab",     "cab",    2, 0);
        rhymes("abc",    "abd",    0, 2);
        rhymes("ab",     "ab",     2, -1);
        rhymes("abc",    "ab",     0, 2);
        rhymes("",       "a",      0, 0);
        rhymes("",       "",       0, -1);
        rhymes("aaa",    "aa",     2, 2);
        rhymes("xbcd",   "ybcd",   3, 0);
        two();
        check.finish();
    }

    private static LetterNames school(int sounds, String... names) {
        StringBuilder text = new StringBuilder();
        int longest = 0;
        for (String name : names) {
            longest = Math.max(longest, name.length());
        }
        // As many LESSONS a LETTER as the NAME that has most of it wants.
        int[] wanted = new int[26];
        for (String name : names) {
            int[] has = new int[26];
            for (char c : name.toCharArray()) {
                has[c - 'a']++;
                wanted[c - 'a'] = Math.max(wanted[c - 'a'], has[c - 'a']);
            }
        }
        for (int letter = 0; letter < 26; letter++) {
            for (int i = 0; i < wanted[letter]; i++) {
                text.append("lesson ").append((char) ('a' + letter)).append((char) ('a' + i)).append(" gives ")
                    .append((char) ('a' + letter)).append(" takes 1;");
            }
        }
        for (int c = 0; c < names.length; c++) {
            text.append("child kid").append((char) ('a' + c)).append(';');
        }
        LetterNames x = Check.of(text.append("sounds ").append(sounds).append(';').toString());
        for (int c = 0; c < names.length; c++) {
            for (char letter : names[c].toCharArray()) {
                learnLetter(x, c, letter - 'a' + 1);
            }
        }
        return x;
    }

    private static void learnLetter(LetterNames x, int child, int letter) {
        for (int l = 0; l < x.many(1); l++) {
            if (x.lesson(l, 0) == letter && x.learn(child, l) != -1) {
                return;
            }
        }
        throw new IllegalStateException("the test's own letter can't be learnt");
    }

    private static void name(String name, int sounds, int said, int stumbles, int drop, int firm, int weak, int vowels) {
        LetterNames x = school(sounds, name);
        String told = name + " by " + sounds;
        check.taken(told + " said", x, x.said(0), said);
        check.due(told + " stumbles", x.stumbles(0), stumbles);
        check.due(told + " stumbles status", x.status(), stumbles == -1 ? 8 : 0);
        check.taken(told + " drop", x, x.drop(0), drop);
        check.taken(told + " firm", x, x.firm(0), firm);
        check.due(told + " weak", x.weak(0), weak);
        check.due(told + " weak status", x.status(), weak == -1 ? 8 : 0);
        check.taken(told + " vowels", x, x.vowels(0), vowels);
    }

    private static void nobody() {
        LetterNames x = Check.of("child a;child b;");
        for (int c : new int[] {-1, 2, Integer.MAX_VALUE, Integer.MIN_VALUE}) {
            check.refused("said", x, x.said(c), 2);
            check.refused("stumbles", x, x.stumbles(c), 2);
            check.refused("drop", x, x.drop(c), 2);
            check.refused("firm", x, x.firm(c), 2);
            check.refused("weak", x, x.weak(c), 2);
            check.refused("vowels", x, x.vowels(c), 2);
            check.refused("rhyme", x, x.rhyme(c, 0), 2);
            check.refused("rhyme", x, x.rhyme(0, c), 2);
            check.refused("rhyme", x, x.rhyme(c, c), 2);
            check.refused("apart", x, x.apart(c, 0), 2);
            check.refused("apart", x, x.apart(0, c), 2);
            check.refused("apart", x, x.apart(c, c), 2);
            check.refused("behind", x, x.behind(c, 0), 2);
            check.refused("behind", x, x.behind(0, c), 2);
            check.refused("behind", x, x.behind(c, c), 2);
        }
    }

    private static void empty() {
        LetterNames x = Check.of("child a;");
        check.taken("said", x, x.said(0), 0);
        check.refused("stumbles", x, x.stumbles(0), 8);
        check.refused("drop", x, x.drop(0), 8);
        check.taken("firm", x, x.firm(0), 0);
        check.refused("weak", x, x.weak(0), 8);
        check.taken("vowels", x, x.vowels(0), 0);
    }

    private static void rhymes(String a, String b, int rhyme, int apart) {
        LetterNames x = school(2, a, b);
        for (int c = 0; c < 2; c++) {
            String told = a + " and " + b;
            check.taken(told + " rhyme", x, x.rhyme(c, 1 - c), rhyme);
            check.due(told + " apart", x.apart(c, 1 - c), apart);
            check.due(told + " apart status", x.status(), apart == -1 ? 8 : 0);
            check.refused(told + " rhyme itself", x, x.rhyme(c, c), 5);
            check.refused(told + " apart itself", x, x.apart(c, c), 5);
            check.refused(told + " behind itself", x, x.behind(c, c), 5);
            check.refused(told + " behind", x, x.behind(c, 1 - c), apart == -1 ? 8 : 9);
        }
    }

    private static void two() {
        LetterNames x = Check.of("lesson a gives a takes 1;lesson b gives b takes 1;lesson c gives b takes 1;child p;child q;");
        Check.learnAll(x, 0, 0, 1, 2);
        Check.learnAll(x, 1, 0, 2);
        check.refused("unlike names", x, x.behind(0, 1), 9);
        Check.learnAll(x, 1, 1);
        check.taken("behind", x, x.behind(0, 1), 1);
        check.taken("behind", x, x.behind(1, 0), 1);
        check.refused("apart", x, x.apart(0, 1), 8);
        check.taken("rhyme", x, x.rhyme(0, 1), 3);
        x.lose(0, 0);
        x.lose(1, 0);
        check.taken("behind at once", x, x.behind(0, 1), 0);
    }
}
