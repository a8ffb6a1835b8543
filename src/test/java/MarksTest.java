/** Promises 54, 55: marks to which all is taken back. */
final class MarksTest {
    private static final Check check = new Check("MarksTest");
    private static final String HALL =
        "master ann;lesson one gives a takes 5 by ann;lesson two gives n takes 3;child eva gift 2 purse 20;child ida purse 5;sounds 1;";

    public static void main(String[] args) {
        many();
        children();
        schools();
        ages();
        whatStays();
        check.finish();
    }

    private static void many() {
        LetterNames x = new LetterNames();
        check.refused("back()", x, x.back(), 8);
        for (int m = 1; m <= 3; m++) {
            check.taken("mark()", x, x.mark(), m);
        }
        check.refused("a fourth", x, x.mark(), 7);
        for (int m = 2; m >= 0; m--) {
            check.taken("back()", x, x.back(), m);
        }
        check.refused("back()", x, x.back(), 8);
        check.taken("mark()", x, x.mark(), 1);
    }

    private static void children() {
        LetterNames x = Check.of(HALL);
        Check.learnAll(x, 0, 1);
        x.mark();
        String first = Check.all(x);
        Check.learnAll(x, 0, 0);
        x.lose(0, 0);
        x.rest(1, 9);
        x.pay(1, 9);
        x.mark();
        String second = Check.all(x);
        Check.learnAll(x, 1, 0, 1);
        x.lose(0, 0);
        check.due("other than then", Check.all(x).equals(second), false);
        check.taken("back()", x, x.back(), 1);
        check.due("as at the second mark", Check.all(x).equals(second), true);
        check.taken("back()", x, x.back(), 0);
        check.due("as at the first mark", Check.all(x).equals(first), true);
    }

    private static void schools() {
        LetterNames x = Check.of(HALL);
        Check.learnAll(x, 0, 1, 0);
        x.mark();
        int fault = Check.school(x, "lesson p gives z takes 1 costs 1;lesson q gives y takes 2;lesson r gives x takes 3 needs p;"
            + "child a;child b;child c;sounds 5;");
        check.due("a new school", fault, 3);
        check.taken("marks stay", x, x.mark(), 2);
        check.taken("back()", x, x.back(), 1);
        check.taken("many(1)", x, x.many(1), 3);
        check.taken("back()", x, x.back(), 0);
        check.taken("many(0)", x, x.many(0), 1);
        check.taken("many(1)", x, x.many(1), 2);
        check.taken("many(2)", x, x.many(2), 2);
        check.taken("many(3)", x, x.many(3), 1);
        check.taken("child(0, 4)", x, x.child(0, 4), 3);
        check.taken("letter(0, 1, 0)", x, x.letter(0, 1, 0), 1);
        check.taken("lesson(0, 1)", x, x.lesson(0, 1), 5);
        check.taken("teaches(0)", x, x.teaches(0), 1);
        check.taken("its names", x, Check.age(x, "learn ida two;"), 1);
        x.live(0);
        check.taken("its names", x, x.child(1, 4), 2);
    }

    private static void ages() {
        LetterNames x = Check.of(HALL);
        x.mark();
        Check.age(x, "rest eva 1;");
        x.mark();
        Check.age(x, "rest eva 1;rest eva 2;");
        x.mark();
        Check.school(x, "");
        check.refused("no age", x, x.live(0), 8);
        x.back();
        check.taken("the second age", x, x.live(0), 2);
        check.taken("its numbers", x, x.child(0, 2), 3);
        x.back();
        check.taken("the first age", x, x.live(0), 1);
        check.taken("its numbers", x, x.child(0, 2), 1);
        x.back();
        check.refused("no age", x, x.live(0), 8);
        x.mark();
        Check.age(x, "loop 2;when says eva;stop;end;end;");
        x.mark();
        x.back();
        check.taken("blocks", x, x.live(0), 1 + 2);
        for (String sign : new String[] {"<", ">", "="}) {
            Check.age(x, "when long eva " + sign + " 0;rest eva 1;end;learn eva two;lose eva 0;");
            x.mark();
            Check.age(x, "when says eva;end;pay ida 9;rest ida 9;fate ida;");
            x.back();
            check.taken("a test of " + sign, x, x.live(0), sign.equals("=") ? 4 : 3);
            check.taken("what was learnt", x, x.lived(1), 1);
            check.taken("what was lost", x, x.lived(2), 1);
        }
    }

    private static void whatStays() {
        LetterNames x = Check.of(HALL);
        x.mark();
        Check.lay(x, 0, 1, 14);
        x.sayable(2);
        x.first(0, 2);
        x.feed(0x20202020, 0x20202020, 0x20202020, 0x20202020, 0x20202020);
        x.back();
        check.taken("trays", x, x.read(0, 1), 14);
        check.due("the fraction", x.bottom(), 1);
        check.due("the fraction", x.top(), 1);
        check.taken("the first way", x, x.firstAt(1), 1);
        check.due("the tape", x.feed(0, 0, 0, 0, 0), 40);
        x.mark();
        x.school(0);
        Check.school(x, "?");
        x.back();
        check.due("the fault", x.fault(0), 1);
    }
}
