/** Promises 48 to 50, sentence by sentence, at their bounds: plans of all CHILDREN, kept in turn by the MASTERS. */
final class PlanBoundsTest {
    private static final Check check = new Check("PlanBoundsTest");
    private static final String HALL = "master m;lesson p gives a takes 2 by m;lesson q gives b takes 1 by m;lesson r gives c takes 3 needs p;";

    public static void main(String[] args) {
        noLesson();
        tooMany();
        cannotBe();
        order();
        noChild();
        nothingPlanned();
        asSoonAsFree();
        childFirstTold();
        mastersHaveOne();
        longest();
        nothingElse();
        planAgain();
        waited();
        began();
        told();
        Run.finish(check, 48, 49, 50);
    }

    private static Run of(int promise, String sentence, String school) {
        return Run.of(check, promise, sentence, school);
    }

    private static Run rich(int promise, String sentence) {
        return Run.rich(check, promise, sentence);
    }

    /** Twelve LESSONS of 30 DAYS, by one MASTER. */
    private static String twelve() {
        StringBuilder text = new StringBuilder("master m;");
        for (int l = 0; l < 12; l++) {
            text.append("lesson ").append((char) ('a' + l)).append(" gives a takes 30 by m;");
        }
        return text.toString();
    }

    private static void noLesson() {
        for (long number : new long[] {3, -1, 12, 1L << 32, Long.MIN_VALUE, Long.MAX_VALUE}) {
            of(48, "2: a number that is no LESSON", HALL + "child c;child d;").lay(0, 0, number).no("plans()", 2);
            of(48, "2: a number that is no LESSON, of the last CHILD", HALL + "child c;child d;").lay(1, number).no("plans()", 2);
        }
        of(48, "the last LESSON is one", HALL + "child c;").lay(0, 0, 2).is("plans()", 5);
        of(48, "2: a SCHOOL without LESSONS", "child c;").go("tray(0, 0, 1)").no("plans()", 2);
        rich(48, "2, where a plan was made ahead").go("write(0, 1, 5)").no("plans()", 2);
    }

    private static void tooMany() {
        Run r = of(48, "a TRAY of 12 numbers", twelve() + "child cx;");
        r.lay(0, 0, 1, 2, 3, 4, 5, 6, 7, 8, 9, 10, 11).is("plans()", 360).is("began(0, 11)", 330).no("began(0, 12)", 8);
        r.lay(0, 0, 1, 2, 3, 4, 5, 6, 7, 8, 9, 10, 11, 0).no("plans()", 5).is("began(0, 11)", 330);
        of(48, "5: a TRAY of 60 numbers", twelve() + "child cx;").go("tray(0, 0, 60)").no("plans()", 5);
        of(48, "5: a TRAY of the last CHILD", twelve() + "child cx;child cy;").go("tray(1, 0, 13)").no("plans()", 5);
        rich(48, "5, where a plan was made ahead").go("tray(0, 0, 13)").no("plans()", 5);
    }

    private static void cannotBe() {
        of(48, "9: told twice", HALL + "child c;").lay(0, 1, 1).no("plans()", 9);
        of(48, "9: a NEED is not KNOWN", HALL + "child c;").lay(0, 2).no("plans()", 9);
        of(48, "9: a NEED comes behind", HALL + "child c;").lay(0, 2, 0).no("plans()", 9);
        of(48, "a NEED comes ahead", HALL + "child c;").lay(0, 0, 2).is("plans()", 5);
        of(48, "9: it is KNOWN", HALL + "child c;").go("learn(0, 1)").lay(0, 1).no("plans()", 9);
        of(48, "from what they KNOW on", HALL + "child c;").go("learn(0, 0)").lay(0, 2).is("plans()", 3);
        of(48, "9: what another CHILD KNOWS does not matter", HALL + "child c;child d;").go("learn(0, 0)").lay(1, 2).no("plans()", 9);
        rich(48, "9, where a plan was made ahead").no("plans()", 9);
    }

    private static void order() {
        Run r = of(48, "2 ahead of 5 ahead of 9", HALL + "child c;").lay(0, 1, 1, 1, 1, 1, 1, 1, 1, 1, 1, 1, 1, 9).no("plans()", 2);
        r.go("write(0, 12, 1)").no("plans()", 5);
        r.lay(0, 1, 1, 1, 1, 1, 1, 1, 1, 1, 1, 1, 1).no("plans()", 9);
        of(48, "2 ahead of 9", HALL + "child c;").lay(0, 1, 1, 3).no("plans()", 2);
    }

    private static void noChild() {
        of(48, "TRAYS of no CHILD do not matter", HALL + "child c;").lay(0, 1).lay(1, 99, 99).go("tray(3, 0, 60)").is("plans()", 1);
        of(48, "a SCHOOL without CHILDREN", HALL).lay(0, 99).is("plans()", 0).no("waited(0)", 2);
        of(48, "the fourth TRAY is of the fourth CHILD", HALL + "child c;child d;child e;child f;").lay(3, 99).no("plans()", 2);
        of(48, "the fourth TRAY is of no CHILD", HALL + "child c;child d;child e;").lay(3, 99).is("plans()", 0);
    }

    private static void nothingPlanned() {
        of(48, "a MISSING one: none", HALL + "child c;").is("plans()", 0).is("waited(0)", 0).no("began(0, 0)", 8);
        of(48, "an empty TRAY: none", HALL + "child c;").go("tray(0, 0, 0)").is("plans()", 0).is("waited(0)", 0).no("began(0, 0)", 8);
    }

    private static void asSoonAsFree() {
        of(48, "the next on the DAY on which the one ahead is done", HALL + "child c;").lay(0, 1, 0, 2).is("plans()", 6).is("began(0, 0)", 0)
            .is("began(0, 1)", 1).is("began(0, 2)", 3);
        of(48, "CLOCKS begin at 0 for this", HALL + "child c;").go("rest(0, 99)").lay(0, 1).is("plans()", 1).is("began(0, 0)", 0).is("child(0, 2)", 99);
        of(48, "by its GIFT, 1 DAY at least", HALL + "child c gift 9;").lay(0, 0, 2).is("plans()", 2).is("began(0, 1)", 1);
        of(48, "on the DAY on which the MASTER is free", HALL + "child c;child d;").lay(0, 0).lay(1, 0).is("plans()", 4).is("began(1, 0)", 2)
            .is("waited(1)", 2);
    }

    private static void childFirstTold() {
        Run r = of(48, "of several the CHILD first told", HALL + "child c;child d;child e;");
        r.lay(0, 1).lay(1, 1).lay(2, 1).is("plans()", 3).is("began(0, 0)", 0).is("began(1, 0)", 1).is("began(2, 0)", 2);
        r.is("waited(0)", 0).is("waited(1)", 1).is("waited(2)", 2);
        // On DAY 1 the first is free again and ahead of the second, who waits since DAY 0.
        r = of(48, "of several the CHILD first told, though it is free no sooner", HALL + "child c;child d;");
        r.lay(0, 1, 0).lay(1, 1).is("plans()", 4).is("began(0, 1)", 1).is("began(1, 0)", 3).is("waited(1)", 3).is("waited(0)", 0);
    }

    private static void mastersHaveOne() {
        Run two = of(48, "two MASTERS have one each", "master m;master n;lesson p gives a takes 2 by m;lesson q gives a takes 2 by n;child c;child d;");
        two.lay(0, 0, 1).lay(1, 1, 0).is("plans()", 4).is("waited(0)", 0).is("waited(1)", 0);
        Run none = of(48, "those taught by nobody wait for nobody", "lesson p gives a takes 2;child c;child d;child e;child f;");
        none.lay(0, 0).lay(1, 0).lay(2, 0).lay(3, 0).is("plans()", 2).is("waited(3)", 0).is("began(3, 0)", 0);
    }

    private static void longest() {
        Run r = of(48, "four CHILDREN, twelve LESSONS of 30 DAYS, one MASTER", twelve() + "child ca;child cb;child cc;child cd;");
        for (int c = 0; c < 4; c++) {
            r.lay(c, 0, 1, 2, 3, 4, 5, 6, 7, 8, 9, 10, 11);
        }
        r.is("plans()", 4 * 12 * 30);
        for (int c = 0; c < 4; c++) {
            r.is("waited(" + c + ")", 360 * c).is("began(" + c + ", 0)", 360 * c).is("began(" + c + ", 11)", 360 * c + 330).no("began(" + c + ", 12)", 8);
        }
    }

    private static void planAgain() {
        Run r = of(49, "anew by each plan", HALL + "child c;child d;").lay(0, 0, 1).lay(1, 1, 0);
        for (int i = 0; i < 2; i++) {
            r.is("plans()", 6).is("waited(0)", 0).is("waited(1)", 3).is("began(0, 1)", 2).is("began(1, 0)", 3).is("began(1, 1)", 4);
        }
    }

    private static void nothingElse() {
        rich(48, "nothing is learnt, no CLOCK goes on").lay(1, 0).is("plans()", 5).is("child(1, 4)", 2).is("child(1, 2)", 10).is("child(0, 4)", 3)
            .same("plans()", 5);
    }

    private static void waited() {
        rich(49, "no such CHILD").no(2, "waited(-1)", "waited(3)", "waited(4)", "waited(MIN)", "waited(MAX)");
        rich(49, "the first and the last").same("waited(0)", 0).same("waited(1)", 0).same("waited(2)", 0);
        of(49, "8: there was none", HALL + "child c;").no("waited(0)", 8);
        of(49, "8: there was none with STATUS 0", HALL + "child c;").lay(0, 9).no("plans()", 2).no("waited(0)", 8);
        of(49, "8: it was not there", "child c;").is("plans()", 0).school("child c;child d;").is("waited(0)", 0).no("waited(1)", 8);
        of(49, "8: nobody was there", "").is("plans()", 0).school("child c;").no("waited(0)", 8);
        of(49, "2: it is there no more", "child c;child d;").is("plans()", 0).school("child c;").is("waited(0)", 0).no("waited(1)", 2);
    }

    private static void began() {
        rich(50, "no such CHILD").no(2, "began(-1, 0)", "began(3, 0)", "began(4, 0)", "began(MIN, 0)", "began(MAX, 0)");
        rich(50, "the first and the last").same("began(0, 0)", 0).same("began(0, 1)", 1).same("began(1, 0)", 0).same("began(1, 1)", 3);
        rich(50, "8: no such LESSON").no(8, "began(0, -1)", "began(0, 2)", "began(0, 12)", "began(0, MIN)", "began(0, MAX)", "began(2, 0)");
        rich(50, "2 ahead of 8").no(2, "began(3, -1)", "began(-1, 99)");
        of(50, "8: there was none", HALL + "child c;").no("began(0, 0)", 8);
        of(50, "8: there was none with STATUS 0", HALL + "child c;").lay(0, 2).no("plans()", 9).no("began(0, 0)", 8);
        of(50, "8: it was not there", HALL + "child c;").lay(0, 1).is("plans()", 1).school("child c;child d;").is("began(0, 0)", 0)
            .no("began(1, 0)", 8);
    }

    private static void told() {
        for (int promise = 49; promise <= 50; promise++) {
            rich(promise, "the latest with STATUS 0: others do not matter").no("plans()", 9).go("write(0, 0, 9)").no("plans()", 2)
                .go("tray(0, 0, 13)").no("plans()", 5).is("waited(0)", 0).is("began(0, 1)", 1).is("began(1, 1)", 3);
            rich(promise, "the latest: a shorter one").lay(0, 3).go("tray(1, 0, 0)").is("plans()", 1).is("began(0, 0)", 0).no("began(0, 1)", 8)
                .no("began(1, 0)", 8).is("waited(1)", 0);
            rich(promise, "TRAYS that are written later do not matter").go("write(0, 0, 9)", "tray(1, 0, 0)").is("began(0, 1)", 1).is("began(1, 1)", 3);
        }
    }
}
