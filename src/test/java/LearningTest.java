/** Promises 19 to 26: learning, losing, resting, paying, what is ready, what it opens, the choice. */
final class LearningTest {
    private static final Check check = new Check("LearningTest");
    private static final String HALL =
        "lesson one gives a takes 5 costs 10;lesson two gives n takes 3;lesson tri gives n takes 4 costs 2 needs two;"
        + "lesson qua gives a takes 2 needs one;lesson fiv gives s takes 6 costs 1 needs two qua;"
        + "child eva gift 2 purse 20;child ida purse 5;sounds 1;";

    public static void main(String[] args) {
        learning();
        losing();
        resting();
        paying();
        readyAndDays();
        opening();
        choosing();
        choosingByDays();
        check.finish();
    }

    private static void learning() {
        LetterNames x = Check.of(HALL);
        check.refused("learn(2, 0)", x, x.learn(2, 0), 2);
        check.refused("learn(-1, 0)", x, x.learn(-1, 0), 2);
        check.refused("learn(0, 5)", x, x.learn(0, 5), 2);
        check.refused("learn(0, -1)", x, x.learn(0, -1), 2);
        check.refused("a need not known", x, x.learn(0, 3), 9);
        check.refused("purse not enough", x, x.learn(1, 0), 7);
        check.taken("learn(0, 0)", x, x.learn(0, 0), 1);
        check.taken("clock", x, x.child(0, 2), 3);
        check.taken("purse", x, x.child(0, 1), 10);
        check.taken("known", x, x.child(0, 4), 1);
        check.refused("known already", x, x.learn(0, 0), 9);
        check.taken("learn(0, 3)", x, x.learn(0, 3), 2);
        check.taken("a day at least", x, x.child(0, 2), 4);
        check.refused("one of two needs not known", x, x.learn(0, 4), 9);
        check.taken("learn(0, 1)", x, x.learn(0, 1), 3);
        check.taken("learn(0, 4)", x, x.learn(0, 4), 4);
        check.taken("purse", x, x.child(0, 1), 9);
        check.taken("name", x, x.letter(0, 3, 0), 19);
        check.taken("ida has nothing", x, x.child(1, 3), 0);

        LetterNames y = Check.of("lesson one gives a takes 1 costs 5;lesson two gives b takes 1 costs 1 needs one;child eva purse 5;");
        LetterNames z = Check.of("lesson a gives a takes 1;lesson b gives b takes 1 costs 9 needs a;child c;");
        check.refused("9 ahead of 7", z, z.learn(0, 1), 9);
        check.taken("purse just enough", y, y.learn(0, 0), 1);
        check.taken("purse empty", y, y.child(0, 1), 0);
        check.refused("purse empty", y, y.learn(0, 1), 7);
        check.refused("known and too dear", y, y.learn(0, 0), 9);
    }

    private static void losing() {
        LetterNames x = Check.of(HALL);
        Check.learnAll(x, 0, 0, 3, 1);
        check.refused("lose(2, 0)", x, x.lose(2, 0), 2);
        check.refused("lose(-1, 0)", x, x.lose(-1, 0), 2);
        check.refused("lose(0, 3)", x, x.lose(0, 3), 8);
        check.refused("lose(0, -1)", x, x.lose(0, -1), 8);
        check.refused("lose of an empty name", x, x.lose(1, 0), 8);
        int clock = x.child(0, 2);
        check.taken("lose(0, 0)", x, x.lose(0, 0), 0);
        check.taken("known", x, x.child(0, 4), 10);
        check.taken("length", x, x.child(0, 3), 2);
        check.taken("letter 0", x, x.letter(0, 0, 1), 3);
        check.taken("letter 1", x, x.letter(0, 1, 1), 1);
        check.taken("clock stays", x, x.child(0, 2), clock);
        check.taken("purse stays", x, x.child(0, 1), 10);
        check.taken("those that need it stay known", x, x.learn(0, 4), 3);
        x.pay(0, 11);
        check.taken("learnt again", x, x.learn(0, 0), 4);
        check.taken("at its end", x, x.letter(0, 3, 1), 0);
        check.taken("paid again", x, x.child(0, 1), 10 - 1 + 11 - 10);
    }

    private static void resting() {
        LetterNames x = Check.of(HALL);
        check.refused("rest(2, 0)", x, x.rest(2, 0), 2);
        check.refused("rest(-1, 1)", x, x.rest(-1, 1), 2);
        check.refused("rest(0, 0)", x, x.rest(0, 0), 5);
        check.refused("rest(0, 100)", x, x.rest(0, 100), 5);
        check.refused("rest(0, -1)", x, x.rest(0, -1), 5);
        check.taken("rest(0, 1)", x, x.rest(0, 1), 1);
        check.taken("rest(0, 99)", x, x.rest(0, 99), 100);
        check.taken("the other's clock", x, x.child(1, 2), 0);
        check.taken("clock", x, x.child(0, 2), 100);
    }

    private static void paying() {
        LetterNames x = Check.of("child eva purse 999;child ida;");
        check.refused("pay(2, 0)", x, x.pay(2, 0), 2);
        check.refused("pay(-1, 1)", x, x.pay(-1, 1), 2);
        check.refused("pay(0, 0)", x, x.pay(0, 0), 5);
        check.refused("pay(0, 100)", x, x.pay(0, 100), 5);
        int purse = 999;
        for (int i = 0; i < 90; i++) {
            purse += 99;
            check.taken("pay(0, 99)", x, x.pay(0, 99), purse);
        }
        check.refused("above 9,999", x, x.pay(0, 91), 7);
        check.refused("100 ahead of 7", x, x.pay(0, 100), 5);
        check.taken("purse stays", x, x.child(0, 1), purse);
        check.taken("9,999", x, x.pay(0, 90), 9999);
        check.refused("above 9,999", x, x.pay(0, 1), 7);
        check.taken("pay(1, 1)", x, x.pay(1, 1), 1);
    }

    private static void readyAndDays() {
        LetterNames x = Check.of(HALL);
        check.refused("ready(2, 9)", x, x.ready(2, 9), 2);
        check.refused("ready(-1, 0)", x, x.ready(-1, 0), 2);
        check.refused("ready(0, 2)", x, x.ready(0, 2), 5);
        check.refused("ready(0, -1)", x, x.ready(0, -1), 5);
        check.taken("ready(0, 0)", x, x.ready(0, 0), 3);
        check.taken("ready(0, 1)", x, x.ready(0, 1), 3);
        check.taken("ready(1, 0)", x, x.ready(1, 0), 3);
        check.taken("ready(1, 1)", x, x.ready(1, 1), 2);
        Check.learnAll(x, 0, 1);
        check.taken("ready(0, 0)", x, x.ready(0, 0), 5);
        check.refused("takes(2, 0)", x, x.takes(2, 0), 2);
        check.refused("takes(-1, 0)", x, x.takes(-1, 0), 2);
        check.refused("takes(0, 5)", x, x.takes(0, 5), 2);
        check.refused("takes(0, -1)", x, x.takes(0, -1), 2);
        int[] gifted = {3, 1, 2, 1, 4};
        int[] plain = {5, 3, 4, 2, 6};
        for (int l = 0; l < 5; l++) {
            check.taken("takes(0, " + l + ")", x, x.takes(0, l), gifted[l]);
            check.taken("takes(1, " + l + ")", x, x.takes(1, l), plain[l]);
        }
    }

    private static void opening() {
        LetterNames x = Check.of(HALL);
        check.refused("opens(2, 0)", x, x.opens(2, 0), 2);
        check.refused("opens(-1, 0)", x, x.opens(-1, 0), 2);
        check.refused("opens(0, 5)", x, x.opens(0, 5), 2);
        check.refused("opens(0, -1)", x, x.opens(0, -1), 2);
        int[] opened = {1, 1, 0, 0, 0};
        for (int l = 0; l < 5; l++) {
            check.taken("opens(0, " + l + ")", x, x.opens(0, l), opened[l]);
        }
        Check.learnAll(x, 0, 1);
        check.refused("opens what it knows", x, x.opens(0, 1), 9);
        check.taken("opens what it can't learn yet", x, x.opens(0, 3), 1);
        Check.learnAll(x, 0, 0);
        check.taken("opens(0, 3)", x, x.opens(0, 3), 1);
        LetterNames y = Check.of("lesson a gives a takes 1;lesson b gives a takes 1 costs 99 needs a;lesson c gives a takes 1 needs a;"
            + "lesson d gives a takes 1 needs a b;child z;");
        check.taken("money not minded", y, y.opens(0, 0), 2);
        Check.learnAll(y, 0, 0, 2);
        y.lose(0, 0);
        check.taken("what is known is not opened", y, y.opens(0, 0), 1);
        StringBuilder text = new StringBuilder("lesson a gives a takes 1;");
        for (int l = 1; l < 12; l++) {
            text.append("lesson ").append((char) ('a' + l)).append(" gives a takes 1 needs a;");
        }
        LetterNames z = Check.of(text + "child z;");
        check.taken("all the others of twelve", z, z.opens(0, 0), 11);
        Check.school(z, "");
        Check.school(z, "lesson a gives a takes 1;child z;");
        check.taken("lessons of an old school do not count", z, z.opens(0, 0), 0);
    }

    private static void choosing() {
        LetterNames x = Check.of(HALL);
        check.refused("choice(2)", x, x.choice(2), 2);
        check.refused("choice(-1)", x, x.choice(-1), 2);
        check.taken("the one that takes least", x, x.choice(0), 1);
        Check.learnAll(x, 0, 1, 0);
        check.taken("the one that is said, though it takes more", x, x.choice(0), 2);
        Check.learnAll(x, 0, 3);
        check.taken("none is said: the one that takes least", x, x.choice(0), 2);
        Check.learnAll(x, 0, 2, 4);
        check.refused("none can be learnt", x, x.choice(0), 8);
        check.taken("money minded", x, x.choice(1), 1);
        Check.learnAll(x, 1, 1, 2);
        check.refused("no money", x, x.choice(1), 8);
    }

    private static void choosingByDays() {
        LetterNames x = Check.of("lesson a gives b takes 4;lesson b gives b takes 3;lesson c gives b takes 3;lesson d gives a takes 9;"
            + "child p;child q gift 5;sounds 1;");
        check.taken("of several the first", x, x.choice(0), 1);
        check.taken("by the days they take the child", x, x.choice(1), 0);
        Check.learnAll(x, 0, 1);
        check.taken("said ahead of days", x, x.choice(0), 3);
        Check.learnAll(x, 1, 1);
        check.taken("said ahead of days", x, x.choice(1), 3);
    }
}
