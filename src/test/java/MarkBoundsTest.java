/** Promises 54 and 55, sentence by sentence, at their bounds: MARKS to which all is taken back. */
final class MarkBoundsTest {
    private static final Check check = new Check("MarkBoundsTest");

    public static void main(String[] args) {
        howMany();
        latestFirst();
        whatIsKept();
        lessonsAreKept();
        nobodyIsKept();
        fullIsKept();
        whatIsNot();
        keptAsItWas();
        Run.finish(check, 54, 55);
    }

    private static Run rich(int promise, String sentence) {
        return Run.rich(check, promise, sentence);
    }

    private static Run of(int promise, String sentence) {
        return Run.of(check, promise, sentence);
    }

    private static void howMany() {
        of(54, "MARKS, at most 3").is("mark()", 1).is("mark()", 2).is("mark()", 3).no("mark()", 7).no("mark()", 7);
        rich(54, "7: a fourth").is("mark()", 3).no("mark()", 7);
        rich(54, "one more behind one that is gone").is("mark()", 3).is("back()", 2).is("mark()", 3).no("mark()", 7);
        rich(54, "it changes nothing").go("mark()", "back()").is("child(0, 4)", 3);
        of(55, "8: there is none").no("back()", 8).is("mark()", 1).is("back()", 0).no("back()", 8).no("back()", 8);
        rich(55, "how many there are left").is("back()", 1).is("back()", 0).no("back()", 8);
        of(55, "three, then none").go("mark()", "mark()", "mark()").is("back()", 2).is("back()", 1).is("back()", 0).no("back()", 8);
    }

    private static void latestFirst() {
        Run r = Run.of(check, 55, "to the latest MARK, which is gone then", "child kim;");
        for (int m = 1; m <= 3; m++) {
            r.is("rest(0, 1)", m).is("mark()", m);
        }
        r.is("rest(0, 9)", 12).no("mark()", 7).is("back()", 2).is("child(0, 2)", 3).is("back()", 1).is("child(0, 2)", 2).is("rest(0, 50)", 52)
            .is("mark()", 2).is("rest(0, 1)", 53).is("back()", 1).is("child(0, 2)", 52).is("back()", 0).is("child(0, 2)", 1).no("back()", 8);
    }

    private static void whatIsKept() {
        Run r = rich(55, "the NAME, KNOWN LESSONS, CLOCK, PURSE").is("mark()", 3).go("lose(0, 0)", "rest(0, 9)", "pay(0, 9)", "learn(1, 2)").is("back()", 2);
        r.is("child(0, 3)", 2).is("child(0, 4)", 3).is("child(0, 2)", 7).is("child(0, 1)", 10).is("letter(0, 0, 1)", 1).is("letter(0, 1, 1)", 0)
            .is("child(1, 4)", 2);
        rich(55, "the SCHOOL").is("mark()", 3).is("school(20)", 0).is("many(1)", 0).is("back()", 2).is("many(0)", 2).is("many(1)", 5).is("many(2)", 3)
            .is("many(3)", 1).is("teaches(1)", 4).is("lesson(4, 4)", 10).no("lesson(3, 3)", 8).is("child(0, 0)", 2);
        rich(55, "NAMES of CHILDREN and LESSONS").is("mark()", 3).is("school(20)", 0).is("back()", 2).age("learn oda two;").is("live(0)", 1)
            .is("child(2, 4)", 2).faulty("age", "fate new;", 3, 5);
        rich(55, "the AGE").is("mark()", 3).is("age(0)", 0).is("live(0)", 0).is("back()", 2).is("live(0)", 3);
        rich(55, "no AGE").is("back()", 1).is("live(0)", 3).is("back()", 0).no("live(0)", 8);
        Run.dry(check, 55, "an AGE of blocks").age("loop 2;when long oda < 9;rest oda 3;end;end;stop;").is("mark()", 3)
            .age("when says eva;pay eva 1;end;fate ida;").is("back()", 2).is("live(0)", 6).is("child(2, 2)", 6).is("lived(3)", 0);
    }

    private static void lessonsAreKept() {
        String school = "master ma;master mb;lesson p gives z takes 30 costs 99 by mb;lesson q gives a takes 1;lesson r gives b takes 2 costs 1 by ma needs p q;";
        int[][] due = {{26, 30, 99, 1, 0}, {1, 1, 0, -1, 0}, {2, 2, 1, 0, 3}};
        Run r = Run.of(check, 55, "LESSONS with all that is told of them", school).is("mark()", 1)
            .school("lesson s gives c takes 5 costs 5;lesson t gives d takes 6 costs 6 needs s;lesson u gives e takes 7 costs 7;").is("back()", 0);
        for (int l = 0; l < 3; l++) {
            for (int what = 0; what < 5; what++) {
                if (due[l][what] == -1) {
                    r.no("lesson(" + l + ", " + what + ")", 8);
                } else {
                    r.is("lesson(" + l + ", " + what + ")", due[l][what]);
                }
            }
        }
    }

    private static void nobodyIsKept() {
        Run r = of(55, "a SCHOOL of nobody").is("mark()", 1).school("lesson p gives a takes 1;child kim;sounds 7;").go("learn(0, 0)").is("back()", 0);
        r.is("many(0)", 0).is("many(1)", 0).is("many(2)", 0).is("many(3)", 2).no("child(0, 0)", 2).no("live(0)", 8);
    }

    private static void fullIsKept() {
        StringBuilder text = new StringBuilder("master ma;master mb;master mc;master md;");
        for (int l = 0; l < 12; l++) {
            text.append("lesson ").append((char) ('a' + l)).append(" gives ").append((char) ('a' + l)).append(" takes 30 by md;");
        }
        Run r = Run.of(check, 55, "as much as there may be", text + "child ca;child cb;child cc;child cd purse 999;sounds 9;");
        for (int l = 11; l >= 0; l--) {
            r.go("learn(3, " + l + ")");
        }
        r.age("rest cd 9;".repeat(29) + "stop;").is("mark()", 1).school("lesson x gives z takes 1;child cx;").is("back()", 0);
        r.is("child(3, 4)", 4095).is("child(3, 3)", 12).is("child(3, 2)", 360).is("child(3, 1)", 999).is("many(0)", 4).is("many(1)", 12).is("many(2)", 4)
            .is("many(3)", 9).is("teaches(3)", 4095).is("live(0)", 30).is("child(3, 2)", 360 + 29 * 9);
        for (int p = 0; p < 12; p++) {
            r.is("letter(3, " + p + ", 0)", 12 - p);
        }
    }

    private static void whatIsNot() {
        rich(55, "TRAYS stay").go("write(3, 0, 7)", "tray(2, 0, 1)").is("back()", 1).is("read(3, 0)", 7).is("read(2, 0)", 0);
        rich(55, "the tape stays").is("back()", 1).tells("feed(0, 0, 0, 0, 0)", 40).is("school(20)", 0).is("many(3)", 4);
        rich(55, "the FRACTION, the FAULT stay").is("back()", 1).is("back()", 0).tells("top()", 1).tells("bottom()", 3).tells("fault(0)", 1)
            .tells("fault(1)", 2);
        rich(55, "the first WAY, the plans, the life told latest stay").is("back()", 1).is("back()", 0).is("firstAt(2)", 2).is("began(1, 1)", 3)
            .is("lived(1)", 1);
    }

    private static void keptAsItWas() {
        Run r = Run.of(check, 54, "kept as they are: what comes later does not matter", "lesson p gives a takes 1;child kim purse 5;").is("mark()", 1);
        r.go("learn(0, 0)", "pay(0, 1)", "rest(0, 1)").age("rest kim 9;").go("live(0)").is("back()", 0).is("child(0, 1)", 5).is("child(0, 2)", 0)
            .is("child(0, 3)", 0).no("live(0)", 8);
        r = Run.of(check, 54, "two MARKS of one state", "child kim;").is("mark()", 1).is("mark()", 2).is("rest(0, 5)", 5).is("back()", 1)
            .is("child(0, 2)", 0).is("rest(0, 7)", 7).is("back()", 0).is("child(0, 2)", 0);
        r.is("mark()", 1).faulty("school", "?", 1, 0).is("back()", 0).is("many(2)", 1);
    }
}
