/** Promises 11, 51 to 53, sentence by sentence, at their bounds: AGES and their FAULTS, what is LIVED, odds. */
final class AgeBoundsTest {
    private static final Check check = new Check("AgeBoundsTest");
    private static final String[] STEPS = {"learn eva one;", "lose eva 0;", "fate eva;", "rest eva 1;", "pay eva 1;", "when says eva;end;",
        "loop 1;end;", "stop;"};

    public static void main(String[] args) {
        lengths();
        tape();
        ofAllBytes();
        oldOneStays();
        everyByte();
        words();
        names();
        numbers();
        compares();
        theEnd();
        ends();
        howManySteps();
        howDeep();
        leastKind();
        firstAlong();
        liveRefused();
        liveOfNothing();
        missed();
        whens();
        loops();
        withinThree();
        mostSteps();
        mostStepsInBlocks();
        draws();
        drawsWrap();
        fatesByNothing();
        livedRefused();
        livedTellsOfTheLatest();
        oddsRefused();
        oddsOfHowMany();
        Run.finish(check, 11, 51, 52, 53);
    }

    private static Run of(int promise, String sentence, String school) {
        return Run.of(check, promise, sentence, school);
    }

    private static Run rich(int promise, String sentence) {
        return Run.rich(check, promise, sentence);
    }

    private static Run dry(int promise, String sentence) {
        return Run.dry(check, promise, sentence);
    }

    /** A text that is taken, with as many STEPS. */
    private static Run taken(String sentence, String text, int steps) {
        return dry(11, sentence).feed(text).is("age(" + text.length() + ")", steps).tells("fault(0)", 0).tells("fault(1)", -1);
    }

    /** A text with a FAULT, read where there is an AGE: all stays. */
    private static void faulty(String sentence, String text, int kind, int place) {
        dry(11, sentence).faulty("age", text, kind, place);
    }

    // ---- which lengths are taken

    private static void lengths() {
        Run.of(check, 11, "no bytes are an AGE of no STEPS").is("age(0)", 0).tells("fault(0)", 0).tells("fault(1)", -1).is("live(0)", 0);
        rich(11, "below 0").no(5, "age(-1)", "age(MIN)");
        rich(11, "more than the tape has").no(5, "age(21)", "age(300)", "age(301)", "age(MAX)");
        Run r = dry(11, "above 300, too").feed("stop;" + " ".repeat(315)).no(5, "age(301)", "age(320)", "age(321)", "age(900)");
        r.is("age(300)", 1);
        dry(11, "all that the tape has").feed("stop;" + " ".repeat(15)).no("age(21)", 5).is("age(20)", 1);
        dry(11, "above 300 of a full tape").feed("stop;" + " ".repeat(895)).no(5, "age(301)", "age(900)", "age(901)").is("age(300)", 1);
    }

    private static void tape() {
        dry(11, "the tape is empty then").feed("stop;stop;").is("age(5)", 1).no(5, "age(1)", "school(1)").tells("feed(0, 0, 0, 0, 0)", 20);
        dry(11, "the tape is empty behind a FAULT").faulty("age", "?", 1, 0).no(5, "age(1)", "school(1)").tells("feed(0, 0, 0, 0, 0)", 20);
        dry(11, "the tape stays behind 5").feed("stop;").no(5, "age(21)", "age(-1)").is("age(5)", 1);
        dry(11, "only the first n bytes").feed("stop;?").is("age(5)", 1);
        dry(11, "only the first n bytes, which end within a NUMBER").faulty("age", "rest eva 12;", 10, 2, 10);
        dry(11, "only the first n bytes, which end within a WORD").faulty("age", "stop;", 3, 2, 0);
        dry(11, "only the first n bytes, which end within a NAME").faulty("age", "fate eva;", 7, 3, 5);
    }

    private static void ofAllBytes() {
        taken("a TEXT of 300 bytes", "stop;" + " ".repeat(284) + "rest eva 9;", 2);
        faulty("a TEXT of 300 bytes, its last one a FAULT", "stop;" + " ".repeat(284) + "rest eva 9?", 1, 299);
        faulty("a TEXT of 300 bytes, whose end is a FAULT", "stop;" + " ".repeat(285) + "rest eva 9", 2, 300);
    }

    private static void oldOneStays() {
        dry(11, "10: the old one stays").faulty("age", "rest eva 9;stop", 2, 15).is("live(0)", 3).is("lived(0)", 1);
        dry(11, "an AGE is there in place of that ahead").age("rest eva 9;").is("live(0)", 1).is("child(0, 2)", 16).age("").is("live(0)", 0)
            .is("child(0, 2)", 16);
        dry(11, "nothing else has changed").is("age(0)", 0).is("child(0, 4)", 3).is("child(1, 4)", 2).is("mark()", 3);
    }

    // ---- TOKENS

    private static void everyByte() {
        for (int b = 0; b < 256; b++) {
            String text = String.valueOf((char) b);
            if (b == 10 || b == 32) {
                taken("byte " + b + " is a blank", "fate" + text + "eva" + text + ";" + text, 1);
                continue;
            }
            boolean token = b >= 'a' && b <= 'z' || b >= '0' && b <= '9' || b == ';' || b == '<' || b == '=' || b == '>';
            faulty("byte " + b + (token ? " begins a TOKEN that can't stand there" : ", no TOKEN begins so"), text, token ? 2 : 1, 0);
            if (!token) {
                faulty("byte " + b + " is no blank", "fate" + text + "eva;", 1, 4);
            }
        }
        taken("no blanks where a TOKEN has its end by itself", "when long eva<1;loop9;end;end;", 2);
        faulty("a NUMBER of 5 digits: at its first", "rest eva 00001;", 1, 9);
        taken("a NUMBER of 4 digits", "rest eva 0001;", 1);
    }

    private static void words() {
        for (String word : Run.RESERVED) {
            boolean begins = "learn lose fate rest pay when loop stop".contains(word);
            if (!begins) {
                faulty("no STEP begins with '" + word + "'", "stop;" + word + ";", 2, 5);
            }
            if (!word.equals("long") && !word.equals("says") && !word.equals("knows")) {
                faulty("no TEST begins with '" + word + "'", "when " + word, 2, 5);
            }
        }
        faulty("no STEP begins with a NAME", "eva", 2, 0);
        faulty("no TEST begins with a NAME", "when eva", 2, 5);
        faulty("no TEST begins with a NUMBER", "when 1;end;", 2, 5);
        faulty("no TEST is empty", "when ;end;", 2, 5);
        faulty("no TEST begins so", "when ?;end;", 1, 5);
        faulty("the end where a TEST must begin", "when", 2, 4);
        faulty("no STEP is empty", "stop;;", 2, 5);
        faulty("a STEP ends with ;", "stop stop;", 2, 5);
        for (String step : STEPS) {
            taken("a STEP", step, 1);
            faulty("a STEP, then no TOKEN", step + "?", 1, step.length());
        }
        faulty("learn wants no third", "learn eva one one;", 2, 14);
        faulty("fate wants no second", "fate eva one;", 2, 9);
        faulty("stop wants none", "stop eva;", 2, 5);
        faulty("loop wants no second", "loop 1 1;end;", 2, 7);
        faulty("says wants no second", "when says eva one;end;", 2, 14);
        faulty("knows wants no third", "when knows eva one one;end;", 2, 19);
        faulty("long wants no third", "when long eva = 1 1;end;", 2, 18);
        faulty("end wants none", "loop 1;end 1;", 2, 11);
    }

    private static void names() {
        String[] ofChildren = {"learn ", "lose ", "fate ", "rest ", "pay ", "when long ", "when says ", "when knows "};
        String[] ofLessons = {"learn eva ", "when knows eva "};
        for (String ahead : ofChildren) {
            for (String name : new String[] {"evi", "one", "ann", "e", "evas", "new", "abcdefgh"}) {
                faulty("3: a NAME that is no CHILD", ahead + name, 3, ahead.length());
            }
            notNames(ahead);
        }
        for (String ahead : ofLessons) {
            for (String name : new String[] {"ones", "eva", "ann", "o", "new", "abcdefgh"}) {
                faulty("3: a NAME that is no LESSON", ahead + name, 3, ahead.length());
            }
            notNames(ahead);
        }
        faulty("a CHILD; then a LESSON", "learn evi two", 3, 6);
        faulty("a CHILD; then a LESSON", "when knows evi six", 3, 11);
        for (String child : new String[] {"eva", "ida", "oda"}) {
            taken("each CHILD", "fate " + child + ";learn " + child + " fiv;", 2);
        }
        Run.of(check, 11, "a SCHOOL of nobody").faulty("age", "fate eva;", 3, 5).age("loop 1;stop;end;").is("live(0)", 2);
        of(11, "NAMES of 8 letters", "child abcdefgh;lesson zzzzzzzz gives a takes 1;").feed("learn abcdefgh zzzzzzzz;").is("age(24)", 1);
    }

    private static void notNames(String ahead) {
        faulty("a WORD of 9 letters where a NAME must stand", ahead + "abcdefghi", 2, ahead.length());
        faulty("a NUMBER where a NAME must stand", ahead + "1", 2, ahead.length());
        faulty("a SIGN where a NAME must stand", ahead + ";", 2, ahead.length());
        faulty("no TOKEN where a NAME must stand", ahead + "12345", 1, ahead.length());
        faulty("the end where a NAME must stand", ahead, 2, ahead.length());
        for (String word : Run.RESERVED) {
            faulty("'" + word + "' where a NAME must stand", ahead + word, 2, ahead.length());
        }
    }

    private static void number(String ahead, String behind, int least, int most) {
        taken("the NUMBER behind '" + ahead + "' from " + least + " on", ahead + " " + least + behind, 1);
        taken("the NUMBER behind '" + ahead + "' up to " + most, ahead + " " + most + behind, 1);
        if (least > 0) {
            faulty("the NUMBER behind '" + ahead + "' from " + least + " on", ahead + " " + (least - 1) + behind, 4, ahead.length() + 1);
        }
        for (int n : new int[] {most + 1, 9999}) {
            faulty("the NUMBER behind '" + ahead + "' up to " + most, ahead + " " + n + behind, 4, ahead.length() + 1);
        }
        faulty("a WORD where a NUMBER must stand", ahead + " eva" + behind, 2, ahead.length() + 1);
        faulty("a SIGN where a NUMBER must stand", ahead + behind, 2, ahead.length());
        faulty("the end where a NUMBER must stand", ahead + " ", 2, ahead.length() + 1);
    }

    private static void numbers() {
        number("lose eva", ";", 0, 11);
        number("rest eva", ";", 1, 99);
        number("pay eva", ";", 1, 99);
        number("when long eva <", ";end;", 0, 12);
        number("when long eva >", ";end;", 0, 12);
        number("when long eva =", ";end;", 0, 12);
        number("loop", ";end;", 1, 99);
    }

    private static void compares() {
        for (String sign : new String[] {"<", ">", "="}) {
            taken("COMPARES " + sign, "when long eva " + sign + " 1;end;", 1);
            faulty("one of COMPARES", "when long eva " + sign + sign + " 1;end;", 2, 15);
        }
        faulty("; is none of COMPARES", "when long eva ; 1;end;", 2, 14);
        faulty("a NUMBER is none of COMPARES", "when long eva 1;end;", 2, 14);
    }

    // ---- the end, ends, how many, how deep

    private static void theEnd() {
        String text = "learn eva one;lose eva 1;fate eva;rest eva 1;pay eva 1;when long eva < 1;loop 2;when says eva;end;end;end;when knows eva one;stop;end;";
        for (int n = 1; n < text.length(); n++) {
            String cut = text.substring(0, n);
            boolean between = text.charAt(n) == ' ' || text.charAt(n) == ';' || text.charAt(n - 1) == ' ' || text.charAt(n - 1) == ';';
            boolean whole = text.charAt(n - 1) == ';' && cut.split("when |loop ", -1).length == cut.split("end;", -1).length;
            if (whole) {
                taken("the end behind a whole STEP", cut, cut.split(";").length - (cut.split("end;", -1).length - 1));
            } else if (between) {
                faulty("the end: the text's length", cut, 2, n);
                faulty("the end behind blanks: the text's length", cut + "\n ", 2, n + 2);
            }
        }
    }

    private static void ends() {
        faulty("an end without a beginning", "end;", 2, 0);
        faulty("an end without a beginning", "stop;end;", 2, 5);
        faulty("an end without a beginning, behind a whole one", "loop 1;end;end;", 2, 11);
        faulty("the text's end ahead of an end", "loop 1;", 2, 7);
        faulty("the text's end ahead of an end", "when says eva;stop;", 2, 19);
        faulty("the text's end ahead of the second of two", "loop 1;loop 1;end;", 2, 18);
        faulty("an end without ;", "loop 1;end", 2, 10);
        taken("an end at once", "loop 1;end;", 1);
    }

    private static void howManySteps() {
        for (String step : STEPS) {
            String word = step.substring(0, step.startsWith("fate") || step.startsWith("pay") ? 3 : 4);
            taken("a 30th STEP, " + word, "stop;".repeat(29) + step, 30);
            faulty("a 31st STEP, " + word + ": at its WORD", "stop;".repeat(30) + step, 6, 150);
            faulty("a 31st STEP, " + word + ", whatever follows", "stop;".repeat(30) + "\n" + step.split("[ ;]")[0] + " ?", 6, 151);
        }
        taken("end is none", "loop 1;" + "stop;".repeat(29) + "end;", 30);
        taken("ends are none", "loop 1;end;".repeat(27), 27);
        taken("ends are none, of 30 STEPS", "loop 1;loop 1;loop 1;" + "stop;".repeat(27) + "end;end;end;", 30);
        faulty("a 31st STEP within", "loop 1;" + "stop;".repeat(29) + "stop;end;", 6, 7 + 145);
        faulty("no STEP is none", "stop;".repeat(30) + "eva", 2, 150);
        faulty("an end without a beginning behind 30", "stop;".repeat(30) + "end;", 2, 150);
    }

    private static void howDeep() {
        String[] begins = {"loop 1;", "when says eva;"};
        for (int which = 0; which < 16; which++) {
            String text = begins[which & 1] + begins[which >> 1 & 1] + begins[which >> 2 & 1];
            taken("a when, loop within two others", text + "end;end;end;", 3);
            taken("a STEP within three", text + "stop;end;end;end;", 4);
            faulty("a when, loop within three others: at its WORD", text + begins[which >> 3] + "end;end;end;end;", 7, text.length());
            faulty("a when, loop within three others, whatever follows", text + (which < 8 ? "loop" : "when"), 7, text.length());
            taken("behind an end it is within two again", text + "end;" + begins[which >> 3] + "end;end;end;", 4);
        }
        faulty("within three again", "loop 1;loop 1;loop 1;end;loop 1;loop 1;", 7, 32);
    }

    private static void leastKind() {
        String deep = "loop 1;loop 1;loop 1;" + "stop;".repeat(27);
        faulty("of one TOKEN the least kind, 6 ahead of 7", deep + "loop 1;", 6, deep.length());
        faulty("of one TOKEN the least kind, 6 ahead of 7", deep + "when", 6, deep.length());
        faulty("of one TOKEN the least kind, 2 ahead of 6", deep + "eva", 2, deep.length());
        faulty("of one TOKEN the least kind, 1 ahead of 6", deep + "?", 1, deep.length());
        faulty("of one TOKEN the least kind, 1 ahead of 4", "rest eva 99999;", 1, 9);
        faulty("of one TOKEN the least kind, 2 ahead of 3", "fate abcdefghi;", 2, 5);
    }

    private static void firstAlong() {
        String[] wrong = {"?;", "fate 5;", "fate evi;", "rest eva 0;"};
        int[] kinds = {1, 2, 3, 4};
        int[] places = {0, 5, 5, 9};
        for (int i = 0; i < 4; i++) {
            for (int j = 0; j < 4; j++) {
                faulty("the first FAULT along the text, " + kinds[i] + " ahead of " + kinds[j], "stop;" + wrong[i] + wrong[j], kinds[i], 5 + places[i]);
            }
        }
        faulty("4 ahead of 7", "loop 1;loop 1;loop 100;loop 1;", 4, 19);
        faulty("3 ahead of 6", "stop;".repeat(29) + "fate evi;stop;", 3, 150);
    }

    // ---- live

    private static void liveRefused() {
        rich(51, "a seed below 0, above 9,999").no(5, "live(-1)", "live(10000)", "live(MIN)", "live(MAX)");
        rich(51, "seeds 0 and 9,999").is("live(0)", 3).is("live(9999)", 3);
        of(51, "8: no AGE", "child kim;").no(8, "live(0)", "live(9999)");
        of(51, "5 ahead of 8", "child kim;").no(5, "live(-1)", "live(10000)");
        of(51, "8: an AGE with a FAULT is none", "child kim;").faulty("age", "stop", 2, 4).no("live(0)", 8);
        rich(51, "8: none behind a new SCHOOL").go("school(0)").no("live(0)", 8);
    }

    private static void liveOfNothing() {
        dry(51, "an AGE of no STEPS").age("").is("live(0)", 0).is("lived(0)", 0).is("lived(1)", 0).is("lived(2)", 0).is("lived(3)", 0).same("live(9)", 0);
        dry(51, "an AGE of blanks").age(" \n").is("live(0)", 0);
        dry(51, "stop at once").age("stop;rest eva 1;").is("live(0)", 1).is("lived(3)", 0).is("child(0, 2)", 7);
        dry(51, "a when that does not hold").age("when long eva = 0;rest eva 1;end;").is("live(0)", 1).is("lived(3)", 0).is("child(0, 2)", 7);
    }

    private static Run lived(Run r, int steps, int missed, int learnt, int lost, int left) {
        return r.is("live(0)", steps).is("lived(0)", missed).is("lived(1)", learnt).is("lived(2)", lost).is("lived(3)", left);
    }

    private static void missed() {
        lived(dry(51, "MISSED: it KNOWS it").age("learn eva one;"), 1, 1, 0, 0, 0);
        lived(dry(51, "MISSED: a NEED is not KNOWN").age("learn oda tri;"), 1, 1, 0, 0, 0);
        lived(dry(51, "MISSED: the PURSE is not enough").age("learn oda one;"), 1, 1, 0, 0, 0);
        lived(dry(51, "the PURSE is just enough").age("pay oda 4;learn oda one;"), 2, 0, 1, 0, 0).is("child(2, 1)", 0);
        lived(dry(51, "MISSED: one too little").age("pay oda 3;learn oda one;"), 2, 1, 0, 0, 0).is("child(2, 1)", 9);
        lived(dry(51, "MISSED: no such place").age("lose eva 2;lose eva 11;lose oda 0;"), 3, 3, 0, 0, 0);
        lived(dry(51, "the last place").age("lose eva 1;"), 1, 0, 0, 1, 0).is("child(0, 4)", 2);
        lived(dry(51, "the first place").age("lose eva 0;"), 1, 0, 0, 1, 0).is("child(0, 4)", 1);
        Run r = of(51, "MISSED: a PURSE above 9,999", "child kim purse 999;").age("loop 90;pay kim 99;end;pay kim 91;pay kim 90;pay kim 1;");
        lived(r, 94, 2, 0, 0, 0).is("child(0, 1)", 9999);
        lived(dry(51, "rest, pay: from 1 to 99").age("rest oda 1;rest oda 99;pay oda 1;pay oda 99;"), 4, 0, 0, 0, 0).is("child(2, 2)", 100)
            .is("child(2, 1)", 106);
    }

    private static void when(String test, boolean holds) {
        dry(51, "when " + test + ": " + holds).age("when " + test + ";rest oda 1;end;").is("live(0)", holds ? 2 : 1).is("child(2, 2)", holds ? 1 : 0);
    }

    private static void whens() {
        when("long eva < 2", false);
        when("long eva < 3", true);
        when("long eva > 2", false);
        when("long eva > 1", true);
        when("long eva = 1", false);
        when("long eva = 2", true);
        when("long eva = 3", false);
        when("long oda = 0", true);
        when("long oda < 0", false);
        when("long oda > 0", false);
        when("long eva < 12", true);
        when("long eva > 12", false);
        when("says eva", true);
        when("says oda", false);
        when("knows eva one", true);
        when("knows eva two", true);
        when("knows eva tri", false);
        when("knows eva fiv", false);
        when("knows oda one", false);
        StringBuilder text = new StringBuilder();
        for (int l = 0; l < 12; l++) {
            text.append("lesson ").append((char) ('a' + l)).append(" gives a takes 1;");
        }
        Run r = of(51, "when long, a NAME of 12", text + "child kim;");
        for (int l = 0; l < 12; l++) {
            r.go("learn(0, " + l + ")");
        }
        r.age("when long kim = 12;rest kim 1;end;when long kim > 11;rest kim 1;end;when long kim > 12;rest kim 1;end;when long kim < 12;rest kim 1;end;"
            + "when knows kim l;rest kim 1;end;lose kim 11;when knows kim l;rest kim 1;end;").is("live(0)", 10).is("lived(2)", 1);
    }

    private static void loops() {
        dry(51, "loop 1: once").age("loop 1;rest oda 1;end;").is("live(0)", 2).is("child(2, 2)", 1);
        dry(51, "loop 99: as often").age("loop 99;rest oda 1;end;").is("live(0)", 100).is("child(2, 2)", 99);
        dry(51, "loop counts as one each time it is come to from ahead").age("loop 3;loop 2;rest oda 1;end;end;").is("live(0)", 1 + 3 * (1 + 2));
        dry(51, "when counts as one each time it is come to from ahead").age("loop 3;when says oda;end;end;").is("live(0)", 1 + 3);
        dry(51, "stop within a loop").age("loop 9;rest oda 1;stop;end;rest oda 9;").is("live(0)", 3).is("child(2, 2)", 1).is("lived(3)", 0);
    }

    private static void withinThree() {
        String[] begins = {"loop 2;", "when says eva;"};
        for (int which = 0; which < 8; which++) {
            String text = begins[which & 1] + begins[which >> 1 & 1] + begins[which >> 2 & 1] + "rest oda 1;end;end;end;";
            int times = 1;
            int steps = 0;
            for (int depth = 0; depth < 3; depth++) {
                steps += times;
                times *= (which >> depth & 1) == 0 ? 2 : 1;
            }
            dry(51, "a STEP within three: " + text).age(text).is("live(0)", steps + times).is("child(2, 2)", times).is("lived(3)", 0);
        }
    }

    private static final String ALMOST = "loop 99;rest oda 1;rest oda 1;rest oda 1;end;";

    private static void mostSteps() {
        lived(dry(51, "299 STEPS").age(ALMOST + "rest oda 1;"), 299, 0, 0, 0, 0).is("child(2, 2)", 298);
        lived(dry(51, "300 STEPS").age(ALMOST + "rest oda 1;rest oda 1;"), 300, 0, 0, 0, 0).is("child(2, 2)", 299);
        lived(dry(51, "at most 300 STEPS: the 301st is left").age(ALMOST + "rest oda 1;rest oda 1;rest oda 1;"), 300, 0, 0, 0, 1)
            .is("child(2, 2)", 299);
        lived(dry(51, "the 300th is stop").age(ALMOST + "rest oda 1;stop;rest oda 1;"), 300, 0, 0, 0, 0);
        lived(dry(51, "the 301st would be stop").age(ALMOST + "rest oda 1;rest oda 1;stop;"), 300, 0, 0, 0, 1);
        lived(dry(51, "the 300th is MISSED").age(ALMOST + "rest oda 1;lose oda 0;"), 300, 1, 0, 0, 0);
        lived(dry(51, "the 301st would be MISSED").age(ALMOST + "rest oda 1;rest oda 1;lose oda 0;"), 300, 0, 0, 0, 1);
    }

    private static void mostStepsInBlocks() {
        lived(dry(51, "the 300th is a when that does not hold").age(ALMOST + "rest oda 1;when says oda;stop;end;"), 300, 0, 0, 0, 0);
        lived(dry(51, "the 300th is a when that holds, the 301st is left").age(ALMOST + "rest oda 1;when says eva;stop;end;"), 300, 0, 0, 0, 1);
        lived(dry(51, "the 300th is a when that holds, with nothing within").age(ALMOST + "rest oda 1;when says eva;end;"), 300, 0, 0, 0, 0);
        lived(dry(51, "the 300th is a loop, with nothing within").age(ALMOST + "rest oda 1;loop 99;end;"), 300, 0, 0, 0, 0);
        lived(dry(51, "the 300th is a loop, the 301st is left").age(ALMOST + "rest oda 1;loop 1;stop;end;"), 300, 0, 0, 0, 1);
        lived(dry(51, "ends do not count").age("loop 1;loop 1;" + ALMOST + "end;end;"), 300, 0, 0, 0, 0);
        lived(dry(51, "the 300th is the last of a loop, not of its last time").age(ALMOST + "loop 2;rest oda 1;end;"), 300, 0, 0, 0, 1);
        lived(dry(51, "the 300th is the last of a loop, of its last time").age(ALMOST + "loop 1;rest oda 1;end;"), 300, 0, 0, 0, 0);
        lived(dry(51, "the most that can be told").age("loop 99;loop 99;loop 99;fate eva;end;end;end;").go("live(0)").age("loop 99;loop 99;loop 99;end;end;end;"),
            300, 0, 0, 0, 1);
    }

    // ---- draws

    private static int next(int s) {
        return (int) ((s * 2887L + 10477L) % 65536L);
    }

    /** CHOICE is q; p, q, r can be learnt; the NAME is "ss". */
    private static Run fated(String sentence) {
        return of(51, sentence, "lesson p gives a takes 9;lesson q gives b takes 1;lesson r gives c takes 5;lesson s gives d takes 1;lesson t gives d takes 1;"
            + "child kim;sounds 9;").go("learn(0, 3)", "learn(0, 4)").age("fate kim;");
    }

    private static void draws() {
        int[] seen = new int[16];
        for (int seed = 0; seed < 10000; seed++) {
            int s = next(seed);
            int what = s / 8 % 16;
            if (seen[what]++ >= 12) {
                continue;
            }
            int known;
            if (what < 8) {
                known = 24 | 2;
            } else if (what < 14) {
                known = 24 | 1 << next(s) / 8 % 3;
            } else {
                known = next(s) / 8 % 2 == 0 ? 16 : 8;
            }
            fated("fate by a draw of " + what + " of 16, seed " + seed).is("live(" + seed + ")", 1).is("child(0, 4)", known).is("lived(0)", 0)
                .is("lived(1)", what < 14 ? 1 : 0).is("lived(2)", what < 14 ? 0 : 1);
        }
        for (int what = 0; what < 16; what++) {
            check.due("promise 51, a draw of " + what + " is there", seen[what] > 0, true);
        }
    }

    /** Draw after draw behind one seed, on the test's own account. */
    private static void drawsWrap() {
        check.due("promise 51, seed 19 is the last whose first draw has no wrap", 19 * 2887 + 10477 < 65536 && 20 * 2887 + 10477 >= 65536, true);
        for (int seed : new int[] {0, 19, 20, 9999}) {
            Run r = of(51, "s becomes what is left by 65,536, seed " + seed, "lesson p gives a takes 1;child kim;").age("loop 80;fate kim;end;");
            int s = seed;
            boolean knows = false;
            int[] count = new int[3];
            for (int i = 0; i < 80; i++) {
                s = next(s);
                int what = s / 8 % 16;
                boolean learn = what < 14;
                if (learn == knows) {
                    count[0]++;
                } else {
                    s = what < 8 ? s : next(s);
                    knows = learn;
                    count[learn ? 1 : 2]++;
                }
            }
            r.is("live(" + seed + ")", 81).is("lived(0)", count[0]).is("lived(1)", count[1]).is("lived(2)", count[2]).is("child(0, 4)", knows ? 1 : 0);
        }
    }

    private static void fatesByNothing() {
        for (int seed = 0; seed < 40; seed++) {
            int what = next(seed) / 8 % 16;
            of(51, "MISSED: a fate by which nothing can be learnt, lost", "child kim;").age("fate kim;").is("live(" + seed + ")", 1).is("lived(0)", 1)
                .is("lived(1)", 0).is("lived(2)", 0).is("child(0, 3)", 0);
            Run r = of(51, "MISSED: money minded, draw " + what, "lesson p gives a takes 1 costs 1;child kim;").age("fate kim;");
            r.is("live(" + seed + ")", 1).is("lived(0)", 1).is("child(0, 3)", 0);
            r = of(51, "one can be learnt, draw " + what, "lesson p gives a takes 1 costs 1;child kim purse 1;").age("fate kim;").is("live(" + seed + ")", 1);
            r.is("lived(0)", what < 14 ? 0 : 1).is("lived(1)", what < 14 ? 1 : 0).is("child(0, 1)", what < 14 ? 0 : 1);
        }
    }

    // ---- lived, odds

    private static void livedRefused() {
        rich(52, "what 0 to 3").same("lived(0)", 0).same("lived(1)", 1).same("lived(2)", 0).same("lived(3)", 0);
        rich(52, "no such what").no(5, "lived(-1)", "lived(4)", "lived(MIN)", "lived(MAX)");
        of(52, "8: there was none", "child kim;").no(8, "lived(0)", "lived(1)", "lived(2)", "lived(3)");
        of(52, "5 ahead of 8", "child kim;").no(5, "lived(-1)", "lived(4)");
        of(52, "8: there was none with STATUS 0", "child kim;").no("live(0)", 8).age("").no("live(10000)", 5).no("lived(0)", 8).go("odds(0, 0, 1)")
            .no("lived(0)", 8);
    }

    private static void livedTellsOfTheLatest() {
        rich(52, "5 does not matter").no(5, "live(-1)", "live(10000)").is("lived(1)", 1);
        rich(52, "8 does not matter").go("school(0)").no("live(0)", 8).is("lived(1)", 1);
        rich(52, "odds() does not matter").go("odds(0, 0, 20)").is("lived(1)", 1).is("lived(0)", 0);
        rich(52, "anew each time").is("live(5)", 3).is("lived(0)", 1).is("lived(1)", 0);
        Run r = dry(52, "anew each time, behind one of which much is told").age("loop 99;learn oda two;lose oda 0;lose oda 0;end;stop;stop;stop;");
        lived(r, 299, 99, 99, 99, 0);
        lived(r.age("loop 99;learn oda two;lose oda 0;lose oda 0;end;loop 3;rest oda 1;end;"), 300, 99, 99, 99, 1);
        lived(r.age("rest oda 1;"), 1, 0, 0, 0, 0);
    }

    private static void oddsRefused() {
        rich(53, "no such CHILD").no(2, "odds(-1, 0, 1)", "odds(3, 0, 1)", "odds(4, 0, 1)", "odds(MIN, 0, 1)", "odds(MAX, 0, 1)");
        rich(53, "a seed below 0, above 9,999").no(5, "odds(0, -1, 1)", "odds(0, 10000, 1)", "odds(0, MIN, 1)", "odds(0, MAX, 1)", "odds(0, -1, 20)");
        rich(53, "fewer than 1, more than 20").no(5, "odds(0, 0, 0)", "odds(0, 0, -1)", "odds(0, 0, 21)", "odds(0, 0, MIN)", "odds(0, 0, MAX)");
        rich(53, "5: the last above 9,999, too").no(5, "odds(0, 9999, 2)", "odds(0, 9981, 20)", "odds(0, 9999, 20)");
        rich(53, "a sum that wraps around").no(5, "odds(0, MAX, MAX)", "odds(0, MAX, 20)", "odds(0, 9999, MAX)", "odds(0, MIN, MAX)", "odds(0, MIN, MIN)");
        of(53, "8: no AGE", "child kim;").no(8, "odds(0, 0, 1)", "odds(0, 9980, 20)");
        of(53, "2 ahead of 5 ahead of 8", "child kim;").no("odds(1, -1, 0)", 2).no("odds(0, -1, 1)", 5).no("odds(0, 0, 21)", 5).no("odds(0, 9999, 2)", 5);
    }

    private static void oddsOfHowMany() {
        rich(53, "1 to 20 seeds, the last 9,999").fraction("odds(0, 9999, 1)", 1, 1).fraction("odds(0, 9980, 20)", 1, 1).fraction("odds(0, 0, 1)", 1, 1)
            .fraction("odds(2, 0, 20)", 0, 1);
        rich(53, "all stays as it is").fraction("odds(1, 0, 20)", 1, 1).same("odds(1, 0, 20)", 1);
        for (int many = 1; many <= 20; many++) {
            int good = 0;
            for (int seed = 100; seed < 100 + many; seed++) {
                good += next(seed) / 8 % 16 < 14 ? 1 : 0;
            }
            int shared = java.math.BigInteger.valueOf(good).gcd(java.math.BigInteger.valueOf(many)).intValue();
            of(53, "behind how many of " + many + " seeds", "lesson p gives a takes 1;child kim;").age("fate kim;")
                .fraction("odds(0, 100, " + many + ")", good / shared, many / shared).is("child(0, 3)", 0);
        }
    }
}
