/** Promises 27 to 35, sentence by sentence, at their bounds: what can be said, what must be dropped, rhymes, two of one NAME. */
final class SoundBoundsTest {
    private static final Check check = new Check("SoundBoundsTest");
    private static final String[] OF_ONE = {"said", "stumbles", "drop", "firm", "weak", "vowels"};

    public static void main(String[] args) {
        nobody();
        nothingChanges();
        emptyNames();
        singleLetters();
        justAsManyAsSounds();
        oneMoreThanSounds();
        theLastIsTooMany();
        kindsOfLetters();
        drops();
        firmness();
        weakness();
        twoAreOne();
        rhymes();
        aparts();
        behinds();
        lostLetters();
        twelveLetters();
        Run.finish(check, 27, 28, 29, 30, 31, 32, 33, 34, 35);
    }

    private static Run of(int promise, String sentence, String school) {
        return Run.of(check, promise, sentence, school);
    }

    private static Run rich(int promise, String sentence) {
        return Run.rich(check, promise, sentence);
    }

    /** A CHILD who learnt a NAME, LETTER by LETTER, each by a LESSON of its own. */
    private static Run named(int promise, String sentence, String name, int sounds) {
        StringBuilder text = new StringBuilder();
        for (int l = 0; l < name.length(); l++) {
            text.append("lesson ").append((char) ('a' + l)).append(" gives ").append(name.charAt(l)).append(" takes 1;");
        }
        Run r = of(promise, sentence + ", '" + name + "' by " + sounds, text + "child kim;sounds " + sounds + ";");
        for (int l = 0; l < name.length(); l++) {
            r.go("learn(0, " + l + ")");
        }
        return r;
    }

    private static void nobody() {
        for (int i = 0; i < OF_ONE.length; i++) {
            for (String child : new String[] {"-1", "3", "4", "MIN", "MAX"}) {
                rich(27 + i, "no such CHILD").no(OF_ONE[i] + "(" + child + ")", 2);
            }
        }
    }

    private static void nothingChanges() {
        rich(27, "a NAME that is SAID").same("said(0)", 1).same("said(1)", 1);
        rich(28, "8: it is SAID").no(8, "stumbles(0)", "stumbles(1)");
        rich(29, "a NAME that is SAID: none must be lost").same("drop(0)", 0).same("drop(1)", 0);
        rich(30, "a NAME that is FIRM").same("firm(0)", 1);
        rich(31, "8: none").no("weak(0)", 8);
        rich(32, "one of two, none of one").same("vowels(0)", 1).same("vowels(1)", 0);
    }

    private static void emptyNames() {
        rich(27, "an empty one can't be said").same("said(2)", 0);
        rich(28, "8: it is empty").no("stumbles(2)", 8);
        rich(29, "8: the NAME is empty").no("drop(2)", 8);
        rich(30, "an empty NAME is not FIRM").same("firm(2)", 0);
        rich(31, "8: an empty NAME is not SAID").no("weak(2)", 8);
        rich(32, "an empty NAME has none").same("vowels(2)", 0);
    }

    private static void singleLetters() {
        for (String name : new String[] {"a", "b"}) {
            named(27, "a single LETTER is SAID", name, 1).is("said(0)", 1);
            named(28, "8: a single LETTER is SAID", name, 1).no("stumbles(0)", 8);
            named(29, "one at least is left", name, 1).is("drop(0)", 0);
            named(30, "one of a single LETTER is not FIRM", name, 9).is("firm(0)", 0);
            named(31, "the loss of a single LETTER leaves what is not SAID", name, 9).is("weak(0)", 0);
            named(32, "of a single LETTER", name, 1).is("vowels(0)", name.equals("a") ? 1 : 0);
        }
    }

    private static void justAsManyAsSounds() {
        for (int sounds = 1; sounds <= 9; sounds++) {
            for (String letter : new String[] {"e", "f"}) {
                String name = letter.repeat(sounds);
                named(27, "SOUNDS LETTERS side by side", name, sounds).is("said(0)", 1);
                named(28, "SOUNDS LETTERS side by side", name, sounds).no("stumbles(0)", 8);
                named(29, "SOUNDS LETTERS side by side", name, sounds).is("drop(0)", 0);
                named(32, "SOUNDS LETTERS side by side", name, sounds).is("vowels(0)", letter.equals("e") ? sounds : 0);
            }
        }
    }

    private static void oneMoreThanSounds() {
        for (int sounds = 1; sounds <= 9; sounds++) {
            for (String letter : new String[] {"u", "v"}) {
                String name = letter.repeat(sounds + 1);
                named(27, "one more than SOUNDS side by side", name, sounds).is("said(0)", 0);
                named(28, "one more than SOUNDS side by side", name, sounds).is("stumbles(0)", sounds);
                named(29, "one more than SOUNDS side by side", name, sounds).is("drop(0)", 1);
                named(30, "one more than SOUNDS side by side: not SAID", name, sounds).is("firm(0)", 0);
                named(31, "8: it is not SAID", name, sounds).no("weak(0)", 8);
                String other = letter.equals("u") ? "v" : "u";
                named(27, "one more than SOUNDS behind another", other + name, sounds).is("said(0)", 0);
                named(28, "one more than SOUNDS behind another", other + name, sounds).is("stumbles(0)", sounds + 1);
            }
        }
    }

    private static void theLastIsTooMany() {
        named(28, "the last of twelve places", "abababababaa", 1).is("stumbles(0)", 11);
        named(27, "the last of twelve places", "abababababaa", 1).is("said(0)", 0);
        named(29, "the last of twelve places", "abababababaa", 1).is("drop(0)", 1);
        named(27, "all twelve in turn", "abababababab", 1).is("said(0)", 1);
        named(28, "the first of several places", "aabaabb", 1).is("stumbles(0)", 1);
        named(28, "three places in one row", "aaaa", 1).is("stumbles(0)", 1);
    }

    private static void kindsOfLetters() {
        for (char c = 'a'; c <= 'z'; c++) {
            boolean vowel = "aeiou".indexOf(c) >= 0;
            named(32, "a, e, i, o, u", "" + c, 1).is("vowels(0)", vowel ? 1 : 0);
            named(27, "all of a, e, i, o, u, or all others", "a" + c, 1).is("said(0)", vowel ? 0 : 1);
            named(27, "all of a, e, i, o, u, or all others", "y" + c, 1).is("said(0)", vowel ? 1 : 0);
        }
        named(32, "twelve", "aeiouaeiouae", 9).is("vowels(0)", 12);
        named(32, "none of twelve", "bcdfghjklmnp", 9).is("vowels(0)", 0);
    }

    private static void drops() {
        named(29, "one at least is left of twelve", "aeiouaeiouae", 1).is("drop(0)", 11);
        named(29, "one at least is left of twelve", "bcdfghjklmnp", 1).is("drop(0)", 11);
        named(29, "twelve, nine of which may stand", "aeiouaeiouae", 9).is("drop(0)", 3);
        named(29, "of each row what is too much", "aaabbbaaabbb", 1).is("drop(0)", 8);
        named(29, "of each row what is too much", "aaabbbaaabbb", 2).is("drop(0)", 4);
        named(29, "of each row what is too much", "aaabbbaaabbb", 3).is("drop(0)", 0);
        named(29, "a LETTER between two rows stays", "aaba", 1).is("drop(0)", 1);
    }

    private static void firmness() {
        named(30, "two unlike LETTERS", "ab", 1).is("firm(0)", 1);
        named(30, "the loss of the one between two", "aba", 1).is("firm(0)", 0);
        named(30, "the loss of the one between two may stand", "aba", 2).is("firm(0)", 1);
        named(30, "the loss of the one between two rows", "aabaa", 3).is("firm(0)", 0);
        named(30, "the loss of the one between two rows may stand", "aabaa", 4).is("firm(0)", 1);
        named(30, "the loss of one of two between two rows", "aabbaa", 2).is("firm(0)", 1);
        named(30, "twelve", "abababababab", 1).is("firm(0)", 0);
        named(30, "twelve", "abababababab", 2).is("firm(0)", 1);
        named(30, "not SAID, though it would be by a loss", "aab", 1).is("firm(0)", 0);
    }

    private static void weakness() {
        named(31, "the first of several places", "ababa", 1).is("weak(0)", 1);
        named(31, "8: none", "ab", 1).no("weak(0)", 8);
        named(31, "8: none", "aabaa", 4).no("weak(0)", 8);
        named(31, "the one between two rows", "aabaa", 3).is("weak(0)", 2);
        named(31, "the last but one of twelve", "aabbaabbaaba", 2).is("weak(0)", 10);
        named(31, "8: it is not SAID", "aab", 1).no("weak(0)", 8);
    }

    private static void twoAreOne() {
        String[] calls = {"rhyme", "apart", "behind"};
        for (int i = 0; i < calls.length; i++) {
            for (String child : new String[] {"-1", "3", "4", "MIN", "MAX"}) {
                rich(33 + i, "no such CHILD").no(2, calls[i] + "(" + child + ", 0)", calls[i] + "(0, " + child + ")");
                rich(33 + i, "2 ahead of 5").no(calls[i] + "(" + child + ", " + child + ")", 2);
            }
            rich(33 + i, "5: one and itself").no(5, calls[i] + "(0, 0)", calls[i] + "(1, 1)", calls[i] + "(2, 2)");
        }
    }

    /** Two CHILDREN, who learn these rows of LESSONS: a to f give a, b, a, b, c, c. */
    private static Run two(int promise, String sentence, String first, String second) {
        Run r = of(promise, sentence + ", '" + first + "' and '" + second + "'", "lesson a gives a takes 1;lesson b gives b takes 1;"
            + "lesson c gives a takes 1;lesson d gives b takes 1;lesson e gives c takes 1;lesson f gives c takes 1;child p;child q;");
        for (char c : first.toCharArray()) {
            r.go("learn(0, " + (c - 'a') + ")");
        }
        for (char c : second.toCharArray()) {
            r.go("learn(1, " + (c - 'a') + ")");
        }
        return r;
    }

    private static void rhymes() {
        rich(33, "none").same("rhyme(0, 1)", 0).same("rhyme(1, 0)", 0);
        rich(33, "an empty NAME").same("rhyme(0, 2)", 0).same("rhyme(2, 0)", 0);
        two(33, "two empty NAMES", "", "").is("rhyme(0, 1)", 0);
        two(33, "all of both", "abcdef", "cdabfe").is("rhyme(0, 1)", 6).is("rhyme(1, 0)", 6);
        two(33, "all of one", "eab", "ab").is("rhyme(0, 1)", 2).is("rhyme(1, 0)", 2);
        two(33, "all but the first", "eab", "dcb").is("rhyme(0, 1)", 2);
        two(33, "the last alone is unlike", "abe", "abd").is("rhyme(0, 1)", 0);
    }

    private static void aparts() {
        rich(34, "one that is there no more, too").same("apart(0, 1)", 1).same("apart(1, 0)", 1);
        rich(34, "an empty NAME: the first place").same("apart(0, 2)", 0).same("apart(2, 0)", 0);
        two(34, "8: two empty NAMES are the same", "", "").no("apart(0, 1)", 8).no("apart(1, 0)", 8);
        two(34, "8: the same NAMES by unlike LESSONS", "abe", "cdf").no("apart(0, 1)", 8).no("apart(1, 0)", 8);
        two(34, "the first place", "a", "b").is("apart(0, 1)", 0);
        two(34, "the last place", "abe", "abd").is("apart(0, 1)", 2).is("apart(1, 0)", 2);
        two(34, "behind the last place of one", "abcde", "cdabef").is("apart(0, 1)", 5).is("apart(1, 0)", 5);
    }

    /** What was lost is there no more, though it was ahead. */
    private static void lostLetters() {
        two(33, "unlike LETTERS were lost", "abe", "cda").go("lose(0, 2)", "lose(1, 2)").is("rhyme(0, 1)", 2);
        two(34, "8: unlike LETTERS were lost", "abe", "cda").is("apart(0, 1)", 2).go("lose(0, 2)", "lose(1, 2)").no("apart(0, 1)", 8);
        two(35, "8: unlike LESSONS were lost", "abe", "abf").is("behind(0, 1)", 2).go("lose(0, 2)", "lose(1, 2)").no("behind(0, 1)", 8);
        named(28, "8: what was too much was lost", "aab", 1).is("stumbles(0)", 1).go("lose(0, 1)").no("stumbles(0)", 8);
        named(32, "what was lost is none", "aab", 1).go("lose(0, 2)", "lose(0, 0)").is("vowels(0)", 1);
    }

    private static void twelveLetters() {
        StringBuilder text = new StringBuilder();
        for (int l = 0; l < 12; l++) {
            text.append("lesson ").append((char) ('a' + l)).append(" gives ").append(l < 11 ? 'a' : 'b').append(" takes 1;");
        }
        for (int promise = 33; promise <= 35; promise++) {
            Run r = of(promise, "two NAMES of twelve LETTERS", text + "child kim;child ann;");
            for (int l = 0; l < 12; l++) {
                r.go("learn(0, " + l + ")", "learn(1, " + (l < 10 ? l : 21 - l) + ")");
            }
            r.is("rhyme(0, 1)", 0).is("apart(0, 1)", 10).no("behind(0, 1)", 9);
            r.go("lose(1, 10)", "learn(1, 11)").is("rhyme(0, 1)", 12).no("apart(0, 1)", 8).no("behind(0, 1)", 8);
            r.go("lose(1, 0)", "lose(1, 9)", "lose(1, 9)", "learn(1, 0)", "learn(1, 10)", "learn(1, 11)").is("rhyme(0, 1)", 12).no("apart(0, 1)", 8)
                .is("behind(0, 1)", 0);
        }
    }

    private static void behinds() {
        rich(35, "9: unlike NAMES").no(9, "behind(0, 1)", "behind(1, 0)", "behind(0, 2)", "behind(2, 0)");
        two(35, "8: two empty NAMES", "", "").no("behind(0, 1)", 8).no("behind(1, 0)", 8);
        two(35, "8: nowhere", "abe", "abe").no("behind(0, 1)", 8);
        two(35, "9 ahead of 8: the same LESSONS as far as one goes", "abe", "ab").no("behind(0, 1)", 9).no("behind(1, 0)", 9);
        two(35, "9, though LESSONS are unlike ahead", "abe", "cb").no("behind(0, 1)", 9);
        two(35, "the first place", "abe", "cbe").is("behind(0, 1)", 0).is("behind(1, 0)", 0);
        two(35, "the last place", "abe", "abf").is("behind(0, 1)", 2).is("behind(1, 0)", 2);
        two(35, "the first of several places", "abe", "adf").is("behind(0, 1)", 1);
    }
}
