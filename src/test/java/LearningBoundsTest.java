/** Promises 19 to 26, sentence by sentence, at their bounds: learning, losing, resting, paying, what is ready, the choice. */
final class LearningBoundsTest {
    private static final Check check = new Check("LearningBoundsTest");

    public static void main(String[] args) {
        learnNobody();
        learnWhatCannotBe();
        learnByPurse();
        learnAll();
        losePlaces();
        loseAndLearn();
        restDays();
        payMuch();
        payUpToTheMost();
        readySets();
        readyByPurse();
        takesDays();
        opens();
        choiceRefused();
        choiceOfSaid();
        choiceOfDays();
        choiceOfAll();
        Run.finish(check, 19, 20, 21, 22, 23, 24, 25, 26);
    }

    private static Run of(int promise, String sentence, String school) {
        return Run.of(check, promise, sentence, school);
    }

    private static Run rich(int promise, String sentence) {
        return Run.rich(check, promise, sentence);
    }

    private static String twelve(String each) {
        StringBuilder text = new StringBuilder();
        for (int l = 0; l < 12; l++) {
            text.append("lesson ").append((char) ('a' + l)).append(" gives ").append((char) ('a' + l)).append(each).append(';');
        }
        return text.toString();
    }

    // ---- learn

    private static void learnNobody() {
        rich(19, "no such CHILD").no(2, "learn(-1, 2)", "learn(3, 2)", "learn(4, 2)", "learn(MIN, 2)", "learn(MAX, 2)");
        rich(19, "no such LESSON").no(2, "learn(0, -1)", "learn(0, 5)", "learn(0, 12)", "learn(0, 32)", "learn(0, MIN)", "learn(0, MAX)");
        rich(19, "2 ahead of 9").no(2, "learn(3, 0)", "learn(3, 4)");
    }

    private static void learnWhatCannotBe() {
        rich(19, "9: it KNOWS it").no(9, "learn(0, 0)", "learn(0, 1)", "learn(1, 1)");
        rich(19, "9: a NEED is not KNOWN").no(9, "learn(0, 4)", "learn(1, 3)", "learn(2, 2)");
        rich(19, "9: one of two NEEDS is not KNOWN").no("learn(0, 4)", 9).is("learn(0, 3)", 3).is("learn(0, 4)", 4);
        String dear = "lesson p gives a takes 1 costs 1;lesson q gives b takes 1 costs 99 needs p;child c purse 1;";
        of(19, "9 ahead of 7: a NEED is not KNOWN", dear).no("learn(0, 1)", 9).is("learn(0, 0)", 1).no("learn(0, 1)", 7);
        of(19, "9 ahead of 7: it KNOWS it", dear).is("learn(0, 0)", 1).no("learn(0, 0)", 9);
        rich(19, "a NEED that was lost is not KNOWN").go("lose(0, 0)").no("learn(0, 2)", 9).is("learn(0, 1)", 2).is("learn(0, 2)", 3);
    }

    private static void learnByPurse() {
        String school = "lesson p gives a takes 1 costs 99;lesson q gives b takes 1;lesson r gives b takes 1 costs 1;child c purse 98;child d purse 99;child e;";
        of(19, "a PURSE of one too little", school).no("learn(0, 0)", 7).go("pay(0, 1)").is("learn(0, 0)", 1).is("child(0, 1)", 0);
        of(19, "a PURSE of just enough", school).is("learn(1, 0)", 1).is("child(1, 1)", 0).no("learn(1, 2)", 7);
        of(19, "an empty PURSE, what COSTS nothing", school).is("learn(2, 1)", 1).is("child(2, 1)", 0).no("learn(2, 2)", 7).no("learn(2, 0)", 7);
        rich(19, "7: the PURSE is not enough").no(7, "learn(2, 0)").is("learn(2, 1)", 1);
    }

    private static void learnAll() {
        Run r = of(19, "twelve LESSONS, from an empty NAME on", twelve(" takes 30 costs 83") + "child kim purse 996;");
        for (int l = 11; l >= 0; l--) {
            r.is("learn(0, " + l + ")", 12 - l).is("child(0, 2)", 30 * (12 - l)).is("child(0, 1)", 83 * l).is("letter(0, " + (11 - l) + ", 0)", l + 1);
        }
        r.is("child(0, 4)", 4095);
        for (int l = 0; l < 12; l++) {
            r.no("learn(0, " + l + ")", 9);
        }
        r.no("learn(0, 12)", 2);
        r = of(19, "other CHILDREN stay as they are", "lesson p gives a takes 3 costs 3;child c purse 9;child d purse 9;").is("learn(1, 0)", 1);
        r.is("child(0, 1)", 9).is("child(0, 2)", 0).is("child(0, 3)", 0).is("child(0, 4)", 0).is("child(1, 1)", 6).is("child(1, 2)", 3);
    }

    // ---- lose

    private static void losePlaces() {
        rich(20, "no such CHILD").no(2, "lose(-1, 0)", "lose(3, 0)", "lose(MIN, 0)", "lose(MAX, 0)");
        rich(20, "no such place").no(8, "lose(0, -1)", "lose(0, 2)", "lose(0, 12)", "lose(0, MIN)", "lose(0, MAX)", "lose(1, 1)");
        rich(20, "an empty NAME has no place").no(8, "lose(2, 0)", "lose(2, -1)");
        rich(20, "2 ahead of 8").no(2, "lose(3, -1)", "lose(-1, 99)");
        rich(20, "the first place").is("lose(0, 0)", 1).is("child(0, 3)", 1).is("child(0, 4)", 1).is("letter(0, 0, 0)", 1).no("letter(0, 1, 0)", 8);
        rich(20, "the last place").is("lose(0, 1)", 0).is("child(0, 3)", 1).is("child(0, 4)", 2).is("letter(0, 0, 0)", 14).no("letter(0, 1, 0)", 8);
        rich(20, "the only place").is("lose(1, 0)", 1).is("child(1, 3)", 0).is("child(1, 4)", 0).no("lose(1, 0)", 8);
        rich(20, "CLOCK and PURSE stay").is("lose(0, 1)", 0).is("child(0, 2)", 7).is("child(0, 1)", 10);
        Run r = of(20, "twelve places, from the first on", twelve(" takes 1") + "child kim;");
        for (int l = 0; l < 12; l++) {
            r.go("learn(0, " + l + ")");
        }
        r.no("lose(0, 12)", 8).is("lose(0, 11)", 11).no("lose(0, 11)", 8);
        for (int l = 0; l < 11; l++) {
            r.is("lose(0, 0)", l).is("child(0, 3)", 10 - l);
        }
        r.no("lose(0, 0)", 8).is("child(0, 4)", 0);
    }

    private static void loseAndLearn() {
        rich(20, "those that NEED it stay").is("learn(0, 2)", 3).is("lose(0, 0)", 1).is("child(0, 4)", 5).is("letter(0, 1, 1)", 2);
        rich(20, "it can be learnt again, at the end").is("lose(0, 0)", 1).is("learn(0, 1)", 2).is("letter(0, 0, 1)", 0).is("letter(0, 1, 1)", 1);
    }

    // ---- rest, pay

    private static void restDays() {
        rich(21, "1 to 99 DAYS").is("rest(0, 1)", 8).is("rest(0, 99)", 107).is("child(0, 2)", 107).is("child(1, 2)", 10).is("child(2, 2)", 0);
        rich(21, "fewer, more DAYS").no(5, "rest(0, 0)", "rest(0, -1)", "rest(0, 100)", "rest(0, MIN)", "rest(0, MAX)");
        rich(21, "no such CHILD").no(2, "rest(-1, 1)", "rest(3, 1)", "rest(MIN, 1)", "rest(MAX, 1)");
        rich(21, "2 ahead of 5").no(2, "rest(3, 0)", "rest(-1, 100)");
        Run r = of(21, "a CLOCK has no bound", "child c;");
        for (int i = 1; i <= 150; i++) {
            r.is("rest(0, 99)", 99 * i);
        }
    }

    private static void payMuch() {
        rich(22, "1 to 99").is("pay(0, 1)", 11).is("pay(0, 99)", 110).is("child(0, 1)", 110).is("child(1, 1)", 6).is("child(2, 1)", 6);
        rich(22, "less, more").no(5, "pay(0, 0)", "pay(0, -1)", "pay(0, 100)", "pay(0, MIN)", "pay(0, MAX)");
        rich(22, "no such CHILD").no(2, "pay(-1, 1)", "pay(3, 1)", "pay(MIN, 1)", "pay(MAX, 1)");
        rich(22, "2 ahead of 5").no(2, "pay(3, 0)", "pay(-1, 100)");
    }

    private static void payUpToTheMost() {
        Run r = of(22, "9,999 and no more", "child c purse 999;child d;");
        for (int i = 1; i <= 90; i++) {
            r.go("pay(0, 99)");
        }
        r.is("child(0, 1)", 9909).no(7, "pay(0, 91)", "pay(0, 99)").is("pay(0, 89)", 9998).no("pay(0, 2)", 7).is("pay(0, 1)", 9999)
            .no(7, "pay(0, 1)", "pay(0, 99)").is("child(0, 1)", 9999);
        r.no("pay(0, 0)", 5).no("pay(0, 100)", 5).no("pay(2, 1)", 2).is("pay(1, 99)", 99);
    }

    // ---- ready, takes, opens

    private static void readySets() {
        rich(23, "what 0 and 1").same("ready(0, 0)", 12).same("ready(0, 1)", 12).same("ready(2, 0)", 3).same("ready(2, 1)", 2);
        rich(23, "no such what").no(5, "ready(0, -1)", "ready(0, 2)", "ready(0, MIN)", "ready(0, MAX)");
        rich(23, "no such CHILD").no(2, "ready(-1, 0)", "ready(3, 0)", "ready(MIN, 0)", "ready(MAX, 0)");
        rich(23, "2 ahead of 5").no(2, "ready(3, 2)", "ready(-1, -1)");
        Run r = of(23, "the set of all twelve, the empty set", twelve(" takes 1") + "child kim;").is("ready(0, 0)", 4095).is("ready(0, 1)", 4095);
        for (int l = 0; l < 12; l++) {
            r.go("learn(0, " + l + ")");
        }
        r.is("ready(0, 0)", 0).is("ready(0, 1)", 0).go("lose(0, 11)").is("ready(0, 0)", 2048);
        of(23, "a SCHOOL without LESSONS", "child c;").is("ready(0, 0)", 0).is("ready(0, 1)", 0);
    }

    private static void readyByPurse() {
        String school = "lesson p gives a takes 1 costs 5;lesson q gives a takes 1 costs 6;lesson r gives a takes 1;child c purse 5;child d;";
        of(23, "money not minded, money minded", school).is("ready(0, 0)", 7).is("ready(0, 1)", 5).is("ready(1, 0)", 7).is("ready(1, 1)", 4)
            .go("pay(0, 1)").is("ready(0, 1)", 7);
    }

    private static void takesDays() {
        StringBuilder text = new StringBuilder();
        int[] days = {1, 2, 8, 9, 10, 11, 29, 30};
        for (int l = 0; l < days.length; l++) {
            text.append("lesson ").append((char) ('a' + l)).append(" gives a takes ").append(days[l]).append(';');
        }
        text.append("child p;child q gift 1;child r gift 9;");
        Run r = of(24, "so many DAYS less, but 1 at least", text.toString());
        int[] one = {1, 1, 7, 8, 9, 10, 28, 29};
        int[] nine = {1, 1, 1, 1, 1, 2, 20, 21};
        for (int l = 0; l < days.length; l++) {
            r.same("takes(0, " + l + ")", days[l]).same("takes(1, " + l + ")", one[l]).same("takes(2, " + l + ")", nine[l]);
        }
        int clock = 0;
        for (int l = 0; l < days.length; l++) {
            clock += nine[l];
            r.is("learn(2, " + l + ")", l + 1).is("child(2, 2)", clock);
        }
        r.is("takes(2, 7)", 21);
        rich(24, "no such CHILD").no(2, "takes(-1, 0)", "takes(3, 0)", "takes(MIN, 0)", "takes(MAX, 0)");
        rich(24, "no such LESSON").no(2, "takes(0, -1)", "takes(0, 5)", "takes(0, 12)", "takes(0, MIN)", "takes(0, MAX)");
        rich(24, "a LESSON that it KNOWS, one that it can't learn").same("takes(0, 0)", 3).same("takes(2, 4)", 6);
    }

    private static void opens() {
        rich(25, "no such CHILD").no(2, "opens(-1, 0)", "opens(3, 0)", "opens(MIN, 0)", "opens(MAX, 0)");
        rich(25, "no such LESSON").no(2, "opens(0, -1)", "opens(0, 5)", "opens(0, 12)", "opens(0, 32)", "opens(0, MIN)", "opens(0, MAX)");
        rich(25, "9: it KNOWS it").no(9, "opens(0, 0)", "opens(0, 1)", "opens(1, 1)");
        rich(25, "2 ahead of 9").no(2, "opens(3, 0)");
        rich(25, "none, one").same("opens(0, 2)", 0).same("opens(0, 3)", 1).same("opens(2, 0)", 1).same("opens(2, 3)", 0).same("opens(2, 4)", 0);
        rich(25, "those that it could learn already are not more, it is not counted").same("opens(2, 1)", 1);
        StringBuilder text = new StringBuilder("lesson a gives a takes 1 costs 9;");
        for (int l = 1; l < 12; l++) {
            text.append("lesson ").append((char) ('a' + l)).append(" gives a takes 1 costs 9 needs a;");
        }
        of(25, "eleven more, money not minded", text + "child kim;").same("opens(0, 0)", 11).same("opens(0, 11)", 0);
        of(25, "those that NEED one more besides are not more", "lesson p gives a takes 1;lesson q gives a takes 1;"
            + "lesson r gives a takes 1 needs p q;child c;").is("opens(0, 0)", 0).is("opens(0, 1)", 0).go("learn(0, 0)").is("opens(0, 1)", 1);
        of(25, "what it KNOWS is not more", "lesson p gives a takes 1;lesson q gives a takes 1 needs p;child c;").go("learn(0, 0)", "learn(0, 1)",
            "lose(0, 0)").is("opens(0, 0)", 0);
    }

    // ---- choice

    private static void choiceRefused() {
        rich(26, "no such CHILD").no(2, "choice(-1)", "choice(3)", "choice(4)", "choice(MIN)", "choice(MAX)");
        of(26, "8: no LESSONS", "child c;").no("choice(0)", 8);
        of(26, "8: all are KNOWN", "lesson p gives a takes 1;child c;").is("choice(0)", 0).go("learn(0, 0)").no("choice(0)", 8);
        of(26, "8: money minded", "lesson p gives a takes 1 costs 2;child c purse 1;").no("choice(0)", 8).go("pay(0, 1)").is("choice(0)", 0);
        of(26, "8: a NEED is not KNOWN", "lesson p gives a takes 1 costs 1;lesson q gives a takes 1 needs p;child c;").no("choice(0)", 8);
        rich(26, "it changes nothing").same("choice(0)", 2).same("choice(1)", 2).same("choice(2)", 1);
    }

    private static void choiceOfSaid() {
        String school = "lesson p gives a takes 1;lesson q gives a takes 1;lesson r gives a takes 1;lesson s gives b takes 30;child c;";
        of(26, "as many side by side as SOUNDS are SAID", school + "sounds 2;").go("learn(0, 0)").is("choice(0)", 1);
        of(26, "one more is not: another makes it SAID", school + "sounds 2;").go("learn(0, 0)", "learn(0, 1)").is("choice(0)", 3);
        of(26, "the only one that makes it SAID is too dear", "lesson p gives a takes 1;lesson q gives a takes 9;lesson r gives b takes 1 costs 1;"
            + "child c;sounds 1;").go("learn(0, 0)").is("choice(0)", 1).go("pay(0, 1)").is("choice(0)", 2);
    }

    private static void choiceOfDays() {
        String school = "lesson p gives a takes 3;lesson q gives b takes 2;lesson r gives b takes 2;lesson s gives b takes 4;child c;";
        of(26, "of several the one that TAKES least, of several the first", school).is("choice(0)", 1).go("learn(0, 1)").is("choice(0)", 2)
            .go("learn(0, 2)").is("choice(0)", 0);
        of(26, "30 DAYS are more than 29", "lesson p gives a takes 30;lesson q gives a takes 29;lesson r gives a takes 30;child c;").is("choice(0)", 1)
            .go("learn(0, 1)").is("choice(0)", 0);
    }

    private static void choiceOfAll() {
        String school = "lesson p gives a takes 1;lesson q gives e takes 3;lesson r gives i takes 2;lesson s gives o takes 2;child c;sounds 1;";
        of(26, "if none makes it SAID, by the same of all", school).go("learn(0, 0)").is("choice(0)", 2).go("learn(0, 2)").is("choice(0)", 3)
            .go("learn(0, 3)").is("choice(0)", 1).go("learn(0, 1)").no("choice(0)", 8);
    }
}
