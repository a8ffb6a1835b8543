/** Promises 1 to 8, sentence by sentence, at their bounds: a new object, STATUS, FRACTIONS, TRAYS. */
final class TrayBoundsTest {
    private static final Check check = new Check("TrayBoundsTest");

    public static void main(String[] args) {
        newObject();
        newObjectsShareNothing();
        lastCall();
        status();
        fractions();
        trayLengths();
        traySorts();
        trayOrder();
        trayIsAllZero();
        places();
        placesOrder();
        cuts();
        minusOne();
        pourOrder();
        pourPlaces();
        pourWraps();
        pourAsTheyWere();
        Run.finish(check, 1, 2, 3, 4, 5, 6, 7, 8);
    }

    private static Run of(int promise, String sentence) {
        return Run.of(check, promise, sentence);
    }

    private static Run rich(int promise, String sentence) {
        return Run.rich(check, promise, sentence);
    }

    private static void newObject() {
        of(1, "STATUS 0").status(0);
        of(1, "the FRACTION 0 by 1").tells("top()", 0).tells("bottom()", 1);
        of(1, "TRAYS are MISSING").no(3, "read(0, 0)", "read(1, 0)", "read(2, 0)", "read(3, 0)").no("read(4, 0)", 1);
        of(1, "a SCHOOL of nobody").is("many(0)", 0).is("many(1)", 0).is("many(2)", 0).is("many(3)", 2)
            .no(2, "teaches(0)", "lesson(0, 0)", "child(0, 0)", "said(0)", "lives(0)", "waited(0)", "began(0, 0)", "odds(0, 0, 1)");
        of(1, "no LESSONS").no("root()", 8).no("reach(0)", 2).is("orders(0)", 1).is("orders(1)", 0).is("orders(12)", 0)
            .no("sayable(1)", 8).no("sayable(12)", 8).is("plans()", 0);
        of(1, "no AGE").no("live(0)", 8).no("lived(0)", 8);
        of(1, "no MARKS").no("back()", 8).is("mark()", 1).is("back()", 0).no("back()", 8);
        of(1, "an empty tape").no(5, "school(1)", "age(1)").tells("feed(0, 0, 0, 0, 0)", 20);
        of(1, "an empty tape, all of which is a SCHOOL").is("school(0)", 0);
        of(1, "an empty tape, all of which is an AGE").is("age(0)", 0).is("live(0)", 0);
        of(1, "nothing is told yet").tells("fault(0)", -1).tells("fault(1)", -1).no("firstAt(0)", 8);
    }

    private static void newObjectsShareNothing() {
        rich(1, "an object of which much became, ahead of a new one").status(10);
        newObject();
    }

    private static void lastCall() {
        LetterNames x = new LetterNames();
        for (int call = 1; call <= 511; call++) {
            x.mark();
        }
        check.due("promise 1, at most 512 calls: the last one answers", x.back(), 2);
    }

    private static void status() {
        Run r = rich(2, "calls without a STATUS leave that of the latest one that has it");
        String[] without = {"status()", "top()", "bottom()", "fault(0)", "fault(1)", "fault(2)", "fault(-1)", "feed(0, 0, 0, 0, 0)"};
        long[] tell = {0, 1, 3, 1, 2, -1, -1, 40};
        String[] refused = {"root()", "read(4, 0)", "child(3, 0)", "read(2, 0)", "read(0, 2)", "many(4)", "tray(0, 0, -1)", "learn(2, 0)",
            "firstAt(3)", "learn(0, 0)", null, "pour(0, 0, 3, 0, 1)"};
        for (int status = 0; status < refused.length; status++) {
            for (int i = 0; i < without.length; i++) {
                Run each = rich(2, "the STATUS of the latest call that has one, " + status + ", behind " + without[i]);
                if (status == 0) {
                    each.is(refused[0], 0);
                } else if (status != 10) {
                    each.no(refused[status], status);
                }
                each.status(status).tells(without[i], i == 0 ? status : tell[i]);
            }
        }
        r.tells("status()", 10).is("root()", 0).tells("status()", 0);
        Run full = rich(2, "a feed that is not taken has no STATUS, too").no("many(-1)", 5);
        for (int fed = 40; fed <= 900; fed += 20) {
            full.tells("feed(1, 2, 3, 4, 5)", fed);
        }
        full.tells("feed(1, 2, 3, 4, 5)", -1).status(5).is("many(0)", 2).tells("feed(1, 2, 3, 4, 5)", -1).status(0);
    }

    private static final String FOUR = "lesson p gives a takes 1;lesson q gives e takes 1;lesson r gives i takes 1;lesson s gives b takes 1;child k;";

    private static void fractions() {
        for (int promise = 3; promise <= 4; promise++) {
            // Of 24 orders of four, those with b behind two or one of three vowels: 12.
            Run.of(check, promise, "without a common divisor", FOUR).fraction("sayable(4)", 1, 2);
            Run.of(check, promise, "all of them are 1 by 1", FOUR).fraction("sayable(1)", 1, 1);
            Run.of(check, promise, "0 is 0 by 1", FOUR + "sounds 1;").fraction("sayable(1)", 1, 1).fraction("sayable(4)", 0, 1);
            Run.of(check, promise, "the FRACTION told latest", FOUR).fraction("sayable(3)", 3, 4).age("").fraction("odds(0, 9, 20)", 0, 1)
                .fraction("sayable(3)", 3, 4);
            rich(promise, "a refused call leaves it").no(5, "sayable(0)", "sayable(13)", "odds(0, 0, 0)").no("sayable(6)", 8)
                .no("odds(3, 0, 1)", 2).tells("top()", 1).tells("bottom()", 3);
            rich(promise, "a new SCHOOL, a MARK taken back leave it").is("back()", 1).is("school(20)", 0)
                .tells("top()", 1).tells("bottom()", 3);
        }
    }

    private static void trayLengths() {
        of(5, "at most 60 numbers").is("tray(0, 0, 60)", 1).is("read(0, 59)", 0).no("read(0, 60)", 4);
        of(5, "61 are too many").no(5, "tray(0, 0, 61)", "tray(0, 0, 62)", "tray(0, 0, MAX)").no("read(0, 0)", 3);
        of(5, "a row of no numbers").is("tray(0, 0, 0)", 1).no("read(0, 0)", 4);
        of(5, "a length below 0").no(6, "tray(0, 0, -1)", "tray(0, 0, -61)", "tray(0, 0, MIN)").no("read(0, 0)", 3);
        of(5, "a row of one number").is("tray(0, 0, 1)", 1).is("read(0, 0)", 0).no("read(0, 1)", 4);
        rich(5, "a refused one leaves the row that is there").no(5, "tray(0, 3, 61)", "tray(3, 1, 61)").no(6, "tray(0, 3, -1)", "tray(3, 1, -1)")
            .no(1, "tray(0, 4, 2)", "tray(0, -1, 2)");
    }

    private static void traySorts() {
        for (int sort = 0; sort < 4; sort++) {
            of(5, "sort " + sort + " is one").is("tray(0, " + sort + ", 1)", 1);
            of(5, "TRAY " + sort + " is one").is("tray(" + sort + ", 0, 1)", 1).is("read(" + sort + ", 0)", 0);
        }
        of(5, "no such sort").no(1, "tray(0, -1, 1)", "tray(0, 4, 1)", "tray(0, MIN, 1)", "tray(0, MAX, 1)");
        of(5, "no such TRAY").no(1, "tray(-1, 0, 1)", "tray(4, 0, 1)", "tray(MIN, 0, 1)", "tray(MAX, 0, 1)");
    }

    private static void trayOrder() {
        of(5, "1 ahead of 5 and 6").no(1, "tray(4, 0, 61)", "tray(4, 0, -1)", "tray(0, 4, 61)", "tray(0, -1, -1)", "tray(-1, -1, 61)");
    }

    private static void trayIsAllZero() {
        of(5, "all 0, as another sort").go("tray(1, 3, 2)", "write(1, 1, MAX)", "tray(1, 0, 2)").is("read(1, 1)", 0);
        of(5, "all 0, as the same").go("tray(1, 3, 2)", "write(1, 0, 7)", "tray(1, 3, 2)").is("read(1, 0)", 0);
        of(5, "all 0 behind a shorter one").go("tray(1, 3, 60)", "write(1, 59, 7)", "tray(1, 3, 1)").no("read(1, 59)", 4)
            .go("tray(1, 3, 60)").is("read(1, 59)", 0);
        of(5, "the others stay").go("tray(0, 0, 1)", "write(0, 0, 5)", "tray(1, 0, 1)").is("read(0, 0)", 5).no("read(2, 0)", 3);
    }

    private static void places() {
        rich(6, "the first and the last place").is("write(3, 0, 5)", 1).is("read(3, 0)", 5).is("write(3, 2, 6)", 1).is("read(3, 2)", 6)
            .is("read(3, 1)", 1);
        rich(6, "a place that the TRAY has not").no(4, "write(3, -1, 5)", "write(3, 3, 5)", "write(0, 2, 5)", "write(3, MIN, 5)", "write(3, MAX, 5)");
        rich(6, "a MISSING one").no(3, "write(2, 0, 5)");
        rich(6, "no such TRAY").no(1, "write(-1, 0, 5)", "write(4, 0, 5)", "write(MIN, 0, 5)", "write(MAX, 0, 5)");
        rich(7, "the first and the last place").same("read(3, 0)", 14).same("read(3, 2)", 14).same("read(0, 1)", 2);
        rich(7, "a place that the TRAY has not").no(4, "read(3, -1)", "read(3, 3)", "read(0, 2)", "read(3, MIN)", "read(3, MAX)");
        rich(7, "a MISSING one").no(3, "read(2, 0)");
        rich(7, "no such TRAY").no(1, "read(-1, 0)", "read(4, 0)", "read(MIN, 0)", "read(MAX, 0)");
        of(6, "an empty TRAY has no place").go("tray(0, 3, 0)").no(4, "write(0, 0, 1)", "write(0, -1, 1)");
        of(7, "an empty TRAY has no place").go("tray(0, 3, 0)").no(4, "read(0, 0)", "read(0, -1)");
        of(6, "the 60th place").go("tray(0, 3, 60)").is("write(0, 59, 8)", 1).is("read(0, 59)", 8).no("write(0, 60, 8)", 4);
    }

    private static void placesOrder() {
        of(6, "1, 3, 4 in this order").no("write(4, -1, 1)", 1).no("write(0, -1, 1)", 3).go("tray(0, 0, 1)").no("write(0, -1, 1)", 4);
        of(7, "1, 3, 4 in this order").no("read(4, -1)", 1).no("read(0, -1)", 3).go("tray(0, 0, 1)").no("read(0, -1)", 4);
    }

    private static void cuts() {
        for (int sort = 0; sort < 3; sort++) {
            long above = 1L << (8 << sort) - 1;
            cut(sort, above - 1, above - 1);
            cut(sort, above, -above);
            cut(sort, -above, -above);
            cut(sort, -above - 1, above - 1);
            cut(sort, 2 * above - 1, -1);
            cut(sort, 2 * above, 0);
            cut(sort, 2 * above + 1, 1);
            cut(sort, Long.MAX_VALUE, -1);
            cut(sort, Long.MIN_VALUE, 0);
        }
        cut(3, Long.MAX_VALUE, Long.MAX_VALUE);
        cut(3, Long.MIN_VALUE, Long.MIN_VALUE);
        cut(3, 1L << 32, 1L << 32);
        of(6, "only its own place").go("tray(0, 0, 3)").is("write(0, 1, 128)", 1).is("read(0, 0)", 0).is("read(0, 1)", -128).is("read(0, 2)", 0);
    }

    private static void cut(int sort, long written, long due) {
        of(6, "what is written is cut to " + (8 << sort) + " bits with sign").go("tray(2, " + sort + ", 2)")
            .is("write(2, 1, " + written + ")", 1).is("read(2, 1)", due).is("read(2, 0)", 0);
    }

    private static void minusOne() {
        of(7, "STATUS tells NONE from -1").go("tray(0, 0, 1)", "write(0, 0, -1)").is("read(0, 0)", -1).no("read(0, 1)", 4);
    }

    private static void pourOrder() {
        of(8, "1 ahead of 3").no(1, "pour(-1, 0, 0, 0, -1)", "pour(4, 0, 0, 0, -1)", "pour(0, 0, -1, 0, -1)", "pour(0, 0, 4, 0, -1)",
            "pour(MIN, 0, MAX, 0, 0)");
        rich(8, "1 ahead of 6 and 4").no(1, "pour(0, 9, 4, 9, -1)", "pour(4, -1, 0, -1, 1)");
        rich(8, "3 of either, ahead of 6 and 4").no(3, "pour(2, 9, 0, 9, -1)", "pour(0, 9, 2, 9, -1)", "pour(2, 0, 2, 0, 0)");
        rich(8, "11 ahead of 6 and 4").no(11, "pour(0, 9, 3, 9, -1)", "pour(3, 9, 0, 9, 1)", "pour(0, 0, 3, 0, 0)");
        rich(8, "6 ahead of 4").no(6, "pour(0, 9, 1, 9, -1)", "pour(0, -1, 1, -1, MIN)", "pour(0, 0, 0, 0, -1)");
        for (int a = 0; a < 4; a++) {
            for (int b = 0; b < 4; b++) {
                Run r = of(8, "sorts " + a + " and " + b).go("tray(0, " + a + ", 1)", "tray(1, " + b + ", 1)", "write(0, 0, 3)");
                if (a == b) {
                    r.is("pour(0, 0, 1, 0, 1)", 1).is("read(1, 0)", 3);
                } else {
                    r.no("pour(0, 0, 1, 0, 1)", 11);
                }
            }
        }
    }

    private static void pourPlaces() {
        rich(8, "too few numbers from i on").no(4, "pour(0, 1, 1, 0, 2)", "pour(0, 2, 1, 0, 1)", "pour(0, 0, 1, 0, 3)");
        rich(8, "too few places from j on").no(4, "pour(0, 0, 1, 1, 2)", "pour(0, 0, 1, 2, 1)");
        rich(8, "places below 0").no(4, "pour(0, -1, 1, 0, 1)", "pour(0, 0, 1, -1, 1)", "pour(0, -1, 1, 0, 0)", "pour(0, 0, 1, -1, 0)",
            "pour(0, MIN, 1, 0, 1)", "pour(0, 0, 1, MIN, 1)");
        rich(8, "all numbers").is("pour(0, 0, 1, 0, 2)", 1).is("read(1, 0)", 3).is("read(1, 1)", 2).is("read(0, 0)", 3);
        rich(8, "the last number to the last place").is("pour(0, 1, 1, 1, 1)", 1).is("read(1, 0)", 1).is("read(1, 1)", 2);
        rich(8, "no numbers").same("pour(0, 0, 1, 0, 0)", 1).same("pour(0, 1, 1, 1, 0)", 1);
        // The document leaves it open whether such a place must be there; NOTES.md says what was taken.
        rich(8, "no numbers, just behind the last place").same("pour(0, 2, 1, 2, 0)", 1).no(4, "pour(0, 3, 1, 0, 0)", "pour(0, 0, 1, 3, 0)");
        of(8, "no numbers of an empty TRAY").go("tray(0, 0, 0)").same("pour(0, 0, 0, 0, 0)", 1).no(4, "pour(0, 1, 0, 0, 0)", "pour(0, 0, 0, 0, 1)");
        of(8, "60 numbers").go("tray(0, 3, 60)", "tray(1, 3, 60)", "write(0, 59, 7)").is("pour(0, 0, 1, 0, 60)", 1).is("read(1, 59)", 7)
            .no(4, "pour(0, 0, 1, 0, 61)", "pour(0, 1, 1, 0, 60)", "pour(0, 0, 1, 1, 60)");
    }

    private static void pourWraps() {
        rich(8, "places and numbers whose sum wraps around").no(4, "pour(0, MAX, 1, 0, 1)", "pour(0, 0, 1, MAX, 1)", "pour(0, MAX, 1, MAX, MAX)",
            "pour(0, 1, 1, 1, MAX)", "pour(0, 0, 1, 0, MAX)", "pour(0, MAX, 1, 0, 0)", "pour(0, 2, 1, 2, MAX)", "pour(0, MIN, 1, MIN, MAX)");
    }

    private static void pourAsTheyWere() {
        Run r = of(8, "the same TRAY, as they were: up").go("tray(0, 0, 4)", "write(0, 0, 1)", "write(0, 1, 2)", "write(0, 2, 3)", "write(0, 3, 4)");
        r.is("pour(0, 0, 0, 1, 3)", 1).is("read(0, 0)", 1).is("read(0, 1)", 1).is("read(0, 2)", 2).is("read(0, 3)", 3);
        r.is("pour(0, 1, 0, 0, 3)", 1).is("read(0, 0)", 1).is("read(0, 1)", 2).is("read(0, 2)", 3).is("read(0, 3)", 3);
        rich(8, "the same TRAY, the same place").same("pour(0, 0, 0, 0, 2)", 1);
    }
}
