/** Promises 48 to 50: plans of all children, kept in turn by the masters. */
final class PlansTest {
    private static final Check check = new Check("PlansTest");
    private static final String HALL =
        "master ann;master bob;lesson one gives a takes 5 costs 99 by ann;lesson two gives n takes 3 by ann;"
        + "lesson tri gives n takes 4 by bob needs two;lesson qua gives a takes 2 needs one;"
        + "lesson fiv gives s takes 6 by bob needs two qua;child eva gift 2;child ida;child oda gift 9;";

    public static void main(String[] args) {
        inTurn();
        byNobody();
        firstTold();
        fromWhatTheyKnow();
        refused();
        childByChild();
        kept();
        longest();
        check.finish();
    }

    private static void begins(LetterNames x, int child, int waited, int... days) {
        check.taken("waited(" + child + ")", x, x.waited(child), waited);
        for (int k = 0; k < days.length; k++) {
            check.taken("began(" + child + ", " + k + ")", x, x.began(child, k), days[k]);
        }
        check.refused("began behind the last", x, x.began(child, days.length), 8);
        check.refused("began ahead of the first", x, x.began(child, -1), 8);
    }

    private static void inTurn() {
        LetterNames x = Check.of(HALL);
        Check.lay(x, 0, 1, 0);
        Check.lay(x, 1, 0, 1);
        check.taken("plans()", x, x.plans(), 12);
        begins(x, 0, 0, 0, 1);
        begins(x, 1, 4, 4, 9);
        begins(x, 2, 0);
        check.taken("nothing is learnt", x, x.child(0, 3), 0);
        check.taken("no clock goes", x, x.child(0, 2), 0);
    }

    private static void byNobody() {
        LetterNames x = Check.of("lesson a gives a takes 3;lesson b gives a takes 2;child p;child q;child r;child s gift 1;");
        Check.lay(x, 0, 0, 1);
        Check.lay(x, 1, 0, 1);
        Check.lay(x, 3, 1, 0);
        check.taken("plans()", x, x.plans(), 5);
        begins(x, 0, 0, 0, 3);
        begins(x, 1, 0, 0, 3);
        begins(x, 2, 0);
        begins(x, 3, 0, 0, 1);
    }

    private static void firstTold() {
        LetterNames x = Check.of("master m;lesson a gives a takes 2 by m;lesson b gives a takes 3 by m;lesson c gives a takes 1;child p;child q;child r;");
        Check.lay(x, 0, 2, 1);
        Check.lay(x, 1, 0, 1);
        Check.lay(x, 2, 0);
        check.taken("plans()", x, x.plans(), 10);
        // On day 0 p learns c, so q is first at m; on day 2 p is ahead of q and r.
        begins(x, 0, 1, 0, 2);
        begins(x, 1, 3, 0, 5);
        begins(x, 2, 8, 8);
    }

    private static void fromWhatTheyKnow() {
        LetterNames x = Check.of(HALL);
        Check.learnAll(x, 1, 1);
        x.rest(1, 50);
        Check.lay(x, 1, 2, 0);
        check.taken("plans()", x, x.plans(), 9);
        begins(x, 1, 0, 0, 4);
        Check.lay(x, 1, 1);
        check.refused("known", x, x.plans(), 9);
        begins(x, 1, 0, 0, 4);
        x.lose(1, 0);
        check.taken("known no more", x, x.plans(), 3);
    }

    private static void refused() {
        LetterNames x = Check.of(HALL);
        Check.lay(x, 0, 5);
        check.refused("no lesson", x, x.plans(), 2);
        Check.lay(x, 0, -1);
        check.refused("no lesson", x, x.plans(), 2);
        Check.lay(x, 0, 1L << 32);
        check.refused("a number of 64 bits", x, x.plans(), 2);
        x.tray(0, 0, 13);
        check.refused("thirteen", x, x.plans(), 5);
        x.write(0, 12, 5);
        check.refused("2 ahead of 5", x, x.plans(), 2);
        Check.lay(x, 0, 0, 4);
        check.refused("a need not known", x, x.plans(), 9);
        Check.lay(x, 0, 0, 0);
        check.refused("told twice", x, x.plans(), 9);
        Check.lay(x, 0, 0, 0, 9);
        check.refused("2 ahead of 9", x, x.plans(), 2);
        x.tray(0, 0, 0);
        Check.lay(x, 3, 99, 99);
        check.taken("a tray of no child", x, x.plans(), 0);
        check.refused("waited(3)", x, x.waited(3), 2);
        check.refused("waited(-1)", x, x.waited(-1), 2);
        check.refused("began(3, 0)", x, x.began(3, 0), 2);
        check.refused("began(-1, 0)", x, x.began(-1, 0), 2);
    }

    private static void childByChild() {
        LetterNames x = Check.of(HALL);
        Check.lay(x, 0, 2);
        Check.lay(x, 1, 9);
        check.refused("9 of the first ahead of 2 of the second", x, x.plans(), 9);
        Check.lay(x, 0, 1);
        check.refused("2 of the second", x, x.plans(), 2);
        x.tray(0, 0, 13);
        check.refused("5 of the first ahead of 2 of the second", x, x.plans(), 5);
    }

    private static void kept() {
        LetterNames x = Check.of(HALL);
        check.refused("waited ahead of plans", x, x.waited(0), 8);
        check.refused("began ahead of plans", x, x.began(0, 0), 8);
        Check.lay(x, 1, 1, 0);
        check.taken("plans()", x, x.plans(), 8);
        x.write(1, 0, 99);
        check.refused("plans()", x, x.plans(), 2);
        begins(x, 1, 0, 0, 3);
        Check.school(x, "child a;child b;child c;child d;");
        begins(x, 1, 0, 0, 3);
        check.refused("the fourth was not there", x, x.waited(3), 8);
        check.refused("the fourth was not there", x, x.began(3, 0), 8);
        x.tray(1, 0, 0);
        check.taken("plans() of nothing", x, x.plans(), 0);
        begins(x, 1, 0);
        begins(x, 3, 0);
    }

    private static void longest() {
        StringBuilder text = new StringBuilder("master m;");
        for (int l = 0; l < 12; l++) {
            text.append("lesson ").append((char) ('a' + l)).append(" gives a takes 30 by m;");
        }
        LetterNames x = Check.of(text + "child p;child q;child r;child s;");
        for (int t = 0; t < 4; t++) {
            Check.lay(x, t, 0, 1, 2, 3, 4, 5, 6, 7, 8, 9, 10, 11);
        }
        check.taken("plans()", x, x.plans(), 1440);
        check.taken("the first waits for nobody", x, x.waited(0), 0);
        check.taken("the last waits for all", x, x.waited(3), 1080);
        check.taken("its last lesson", x, x.began(3, 11), 1410);
    }
}
