/** Promises 9, 10, 12 to 18, sentence by sentence, at their bounds, with what "Terms" says of SCHOOLS and their FAULTS. */
final class SchoolBoundsTest {
    private static final Check check = new Check("SchoolBoundsTest");

    public static void main(String[] args) {
        tapeIsFull();
        tapeIsOfBytes();
        schoolLengths();
        schoolTape();
        schoolOfAllBytes();
        inPlaceOfThatAhead();
        everyByte();
        blanks();
        digits();
        names();
        reservedWords();
        letterWords();
        howMany();
        numbers();
        withoutThem();
        needs();
        oneThingAlone();
        toldAhead();
        misfits();
        theEnd();
        twice();
        firstAlong();
        leastKind();
        whatFaultTells();
        askingMany();
        askingLessons();
        askingChildren();
        askingLetters();
        askingMasters();
        copying();
        Run.finish(check, 9, 10, 12, 13, 14, 15, 16, 17, 18);
    }

    private static Run of(int promise, String sentence) {
        return Run.of(check, promise, sentence);
    }

    private static Run of(int promise, String sentence, String school) {
        return Run.of(check, promise, sentence, school);
    }

    private static Run rich(int promise, String sentence) {
        return Run.rich(check, promise, sentence);
    }

    /** A text that is taken, with as many LESSONS. */
    private static Run taken(String sentence, String text, int lessons) {
        return of(10, sentence).feed(text).is("school(" + text.length() + ")", lessons).tells("fault(0)", 0).tells("fault(1)", -1);
    }

    /** A text with a FAULT, read where much became of a SCHOOL: all of that stays. */
    private static void faulty(String sentence, String text, int kind, int place) {
        Run.dry(check, 10, sentence).faulty("school", text, kind, place);
    }

    private static String masters(int many) {
        StringBuilder text = new StringBuilder();
        for (int m = 0; m < many; m++) {
            text.append("master m").append((char) ('a' + m)).append(';');
        }
        return text.toString();
    }

    private static String lessons(int many) {
        StringBuilder text = new StringBuilder();
        for (int l = 0; l < many; l++) {
            text.append("lesson ").append((char) ('a' + l)).append(" gives a takes 1;");
        }
        return text.toString();
    }

    private static String children(int many) {
        StringBuilder text = new StringBuilder();
        for (int c = 0; c < many; c++) {
            text.append("child c").append((char) ('a' + c)).append(';');
        }
        return text.toString();
    }

    // ---- the tape

    private static void tapeIsFull() {
        Run r = of(9, "twenty bytes come behind those on the tape");
        for (int fed = 20; fed <= 900; fed += 20) {
            r.tells("feed(0, 0, 0, 0, 0)", fed);
        }
        of(9, "NONE if there would be more than 900, and nothing comes to the tape").feed("sounds 5;" + " ".repeat(891))
            .tells("feed(1, 2, 3, 4, 5)", -1).tells("feed(1, 2, 3, 4, 5)", -1).no("school(901)", 5).is("school(900)", 0).is("many(3)", 5);
        of(9, "an empty tape behind a SCHOOL").feed(" ".repeat(900)).is("school(0)", 0).tells("feed(0, 0, 0, 0, 0)", 20);
        of(9, "a full tape behind a refused SCHOOL").feed(" ".repeat(900)).no("school(901)", 5).tells("feed(0, 0, 0, 0, 0)", -1);
        of(9, "a full tape behind a refused AGE").feed(" ".repeat(900)).no("age(301)", 5).tells("feed(0, 0, 0, 0, 0)", -1);
    }

    private static void tapeIsOfBytes() {
        // "sounds 7;", then bytes that no TOKEN begins with, the highest of them with the sign's bit.
        of(9, "the highest of each int first").tells("feed(1936684398, 1685266487, 998244352, -1, MIN)", 20).is("school(9)", 0).is("many(3)", 7);
        of(9, "all twenty, as they stand").feed("child abcdefgh gift ").feed("9 purse 998;sounds 9").feed(";").is("school(41)", 0)
            .is("child(0, 0)", 9).is("child(0, 1)", 998).is("many(3)", 9);
    }

    // ---- which lengths are taken

    private static void schoolLengths() {
        of(10, "no bytes are a SCHOOL of nobody").is("school(0)", 0).tells("fault(0)", 0).tells("fault(1)", -1).is("many(3)", 2);
        rich(10, "below 0").no(5, "school(-1)", "school(MIN)");
        rich(10, "more than the tape has").no(5, "school(21)", "school(900)", "school(901)", "school(MAX)");
        rich(10, "all that the tape has").is("school(20)", 0).is("many(2)", 1).is("many(3)", 4);
        rich(10, "none of what the tape has").is("school(0)", 0).is("many(2)", 0).is("many(3)", 2);
        of(10, "900 bytes are the most").feed(" ".repeat(900)).no("school(901)", 5).is("school(900)", 0);
    }

    private static void schoolTape() {
        of(10, "the tape is empty then").feed("sounds 3;sounds 4;").is("school(9)", 0).is("many(3)", 3).no("school(1)", 5)
            .tells("feed(0, 0, 0, 0, 0)", 20);
        of(10, "the tape is empty behind a FAULT").faulty("school", "?", 1, 0).no("school(1)", 5).tells("feed(0, 0, 0, 0, 0)", 20);
        of(10, "the tape stays behind 5").feed("sounds 3;").no("school(21)", 5).no("school(-1)", 5).is("school(9)", 0).is("many(3)", 3);
        of(10, "only the first n bytes").feed("sounds 3;?").is("school(9)", 0).is("many(3)", 3);
        of(10, "only the first n bytes, which end within a NUMBER").faulty("school", "sounds 33;", 8, 2, 8);
        of(10, "only the first n bytes, which end within a WORD").faulty("school", "sounds 3;", 5, 2, 0);
        of(10, "only the first n bytes, which end ahead of what is too long").feed("child abcdefgh;").no("school(21)", 5)
            .is("school(15)", 0).faulty("school", "child abcdefghi", 14, 2, 14);
    }

    /** 900 bytes, the last of them a sign that matters. */
    private static void schoolOfAllBytes() {
        String text = lessons(12) + " ".repeat(900 - 300 - 9) + "sounds 8;";
        taken("a TEXT of 900 bytes", text, 12).is("many(3)", 8);
        faulty("a TEXT of 900 bytes, its last one a FAULT", text.substring(0, 899) + "?", 1, 899);
        faulty("a TEXT of 899 bytes that lacks its last one", text.substring(0, 899), 2, 899);
        faulty("a TEXT of 900 bytes, whose end is a FAULT", text.substring(0, 899) + " ", 2, 900);
    }

    private static void inPlaceOfThatAhead() {
        Run r = rich(10, "a SCHOOL that is taken is there in place of that ahead").is("school(20)", 0);
        r.is("many(0)", 0).is("many(1)", 0).is("many(2)", 1).is("many(3)", 4).no(2, "lesson(0, 0)", "child(1, 0)", "teaches(0)");
        String again = "lesson one gives a takes 5;child eva purse 7;child ida;";
        r = rich(10, "nobody has learnt anything").is("school(0)", 0).school(again).is("child(0, 3)", 0).is("child(0, 4)", 0)
            .is("child(1, 4)", 0).no("letter(0, 0, 0)", 8).is("ready(0, 0)", 1);
        r = rich(10, "all CLOCKS stand at 0, PURSES as they are told").is("school(0)", 0).school(again).is("child(0, 2)", 0)
            .is("child(1, 2)", 0).is("child(0, 1)", 7).is("child(1, 1)", 0);
        rich(10, "there is no AGE").is("live(1)", 3).is("school(0)", 0).no("live(1)", 8);
        rich(10, "there is no AGE in a SCHOOL of the same text").is("school(0)", 0).school(again).no("live(1)", 8).no("odds(0, 0, 1)", 8);
        rich(10, "MARKS stay").is("school(20)", 0).is("mark()", 3).no("mark()", 7).is("back()", 2).is("many(3)", 4).is("back()", 1).is("many(3)", 1);
        rich(10, "TRAYS stay").is("school(20)", 0).is("read(3, 0)", 14).no("read(2, 0)", 3);
        rich(10, "the FRACTION, the first WAY, the life told latest stay").is("school(20)", 0).tells("top()", 1).tells("bottom()", 3)
            .is("firstAt(2)", 2).is("lived(1)", 1);
    }

    // ---- TOKENS

    private static void everyByte() {
        for (int b = 0; b < 256; b++) {
            String text = String.valueOf((char) b);
            boolean letter = b >= 'a' && b <= 'z';
            if (b == 10 || b == 32) {
                taken("byte " + b + " is a blank", text, 0);
                taken("byte " + b + " ends a WORD", "sounds" + text + "5;", 0).is("many(3)", 5);
                taken("byte " + b + " ends a NUMBER", "sounds 5" + text + ";", 0).is("many(3)", 5);
                continue;
            }
            boolean token = letter || b >= '0' && b <= '9' || b == ';' || b == '<' || b == '=' || b == '>';
            faulty("byte " + b + (token ? " begins a TOKEN that can't stand there" : ", no TOKEN begins so"), text, token ? 2 : 1, 0);
            if (!token) {
                faulty("byte " + b + " is no blank", "sounds" + text + "5;", 1, 6);
            }
        }
    }

    private static void blanks() {
        taken("any number of blanks", "\n\n  sounds  \n 5  ;\n\n child\na ; ", 0).is("many(3)", 5).is("many(2)", 1);
        taken("no blanks where a TOKEN has its end by itself", "sounds5;child a gift3purse4;lesson b gives b takes1costs2;", 1)
            .is("many(3)", 5).is("child(0, 0)", 3).is("child(0, 1)", 4).is("lesson(0, 1)", 1).is("lesson(0, 2)", 2);
        faulty("TOKENS are as long as they go: two WORDS without a blank", "mastera;", 2, 0);
        faulty("TOKENS are as long as they go: a NAME, then a WORD", "lesson agives a takes 1;", 2, 14);
    }

    private static void digits() {
        taken("a NUMBER of 1 digit", "sounds 9;", 0).is("many(3)", 9);
        taken("a NUMBER of 4 digits", "sounds 0009;", 0).is("many(3)", 9);
        taken("a NUMBER of 4 digits, 0", "child a purse 0000;", 0).is("child(0, 1)", 0);
        faulty("a NUMBER of 5 digits: at its first", "sounds 00009;", 1, 7);
        faulty("a NUMBER of 5 digits that would be too large", "sounds 10000;", 1, 7);
        faulty("the largest NUMBER of 4 digits", "sounds 9999;", 4, 7);
        faulty("a NUMBER that wraps around 32 bits to 1", "sounds 4294967297;", 1, 7);
        faulty("a NUMBER that wraps around 64 bits to 1", "sounds 18446744073709551617;", 1, 7);
        faulty("a NUMBER of 893 digits", "sounds " + "1".repeat(893), 1, 7);
        faulty("a NUMBER of 5 digits where none must stand", "child 12345;", 1, 6);
        faulty("a NUMBER of 4 digits where none must stand", "child 1234;", 2, 6);
        faulty("a NUMBER of 5 digits, first of all", "12345", 1, 0);
    }

    /** What stands ahead of a NAME in each place where one must stand. */
    private static final String[] AHEAD_OF_NAMES = {"master ", "lesson ", "child ", "lesson p gives a takes 1 by ",
        "lesson p gives a takes 1 needs ", "lesson p gives a takes 1;lesson q gives a takes 1 needs p "};

    private static void names() {
        taken("a NAME of 1 letter", "master a;lesson z gives a takes 1 by a;child m;lesson y gives a takes 1 needs z;", 2).is("teaches(0)", 1)
            .is("lesson(1, 4)", 1);
        taken("a NAME of 8 letters", "master aaaaaaaa;lesson zzzzzzzz gives a takes 1 by aaaaaaaa;child abcdefgh;"
            + "lesson y gives a takes 1 needs zzzzzzzz;", 2).is("teaches(0)", 1).is("lesson(1, 4)", 1);
        taken("NAMES that differ in the last, the first letter, in their length", "master abcdefgh;master abcdefgi;master bbcdefgh;"
            + "child abcdefg;child a;child aa;child aaa;", 0).is("many(0)", 3).is("many(2)", 4);
        for (String ahead : AHEAD_OF_NAMES) {
            faulty("a WORD of 9 letters where a NAME must stand", ahead + "abcdefghi;", 2, ahead.length());
            faulty("a WORD of 99 letters where a NAME must stand", ahead + "a".repeat(99) + ";", 2, ahead.length());
            faulty("a NUMBER where a NAME must stand", ahead + "1;", 2, ahead.length());
            faulty("no TOKEN where a NAME must stand", ahead + "A;", 1, ahead.length());
            for (String sign : new String[] {";", "<", ">", "="}) {
                if (!ahead.endsWith("needs p ") || !sign.equals(";")) {
                    faulty("a SIGN where a NAME must stand", ahead + sign, 2, ahead.length());
                }
            }
        }
        faulty("a WORD of 9 letters that begins as a NAME told ahead", "master abcdefgh;lesson p gives a takes 1 by abcdefghi;", 2, 44);
    }

    private static void reservedWords() {
        check.due("promise 10, NAME: 23 WORDS are none", Run.RESERVED.size(), 23);
        for (String word : Run.RESERVED) {
            for (String ahead : AHEAD_OF_NAMES) {
                faulty("'" + word + "' is no NAME", ahead + word + ";", 2, ahead.length());
            }
            taken("'" + word + "x' is a NAME", "child " + word + "x;", 0).is("many(2)", 1);
            String shorter = word.substring(0, word.length() - 1);
            taken("'" + shorter + "' is a NAME", "child " + shorter + ";", 0).is("many(2)", 1);
        }
    }

    private static void letterWords() {
        for (int letter = 1; letter <= 26; letter++) {
            taken("a LETTER, 1 for a to 26 for z", "lesson p gives " + (char) ('a' + letter - 1) + " takes 1;", 1).is("lesson(0, 0)", letter);
        }
        for (String word : new String[] {"aa", "by", "takes", "abcdefgh", "abcdefghi"}) {
            faulty("a WORD of 2 letters and more where a LETTER must stand", "lesson p gives " + word + " takes 1;", 2, 15);
        }
        faulty("a NUMBER where a LETTER must stand", "lesson p gives 1 takes 1;", 2, 15);
        faulty("a SIGN where a LETTER must stand", "lesson p gives ;", 2, 15);
        faulty("no TOKEN where a LETTER must stand", "lesson p gives A takes 1;", 1, 15);
        faulty("the end where a LETTER must stand", "lesson p gives", 2, 14);
        taken("a LETTER may be a NAME, too", "lesson a gives a takes 1;lesson b gives a takes 1 needs a;", 2).is("lesson(1, 4)", 1);
    }

    // ---- how many, which numbers

    private static void howMany() {
        taken("4 MASTERS, 12 LESSONS, 4 CHILDREN", masters(4) + lessons(12) + children(4) + "sounds 1;", 12).is("many(0)", 4).is("many(1)", 12)
            .is("many(2)", 4).is("teaches(3)", 0).is("lesson(11, 0)", 1).is("child(3, 0)", 0);
        faulty("a 5th MASTER: at that WORD", masters(5), 6, 40);
        faulty("a 13th LESSON: at that WORD", lessons(13), 6, 300);
        faulty("a 5th CHILD: at that WORD", children(5), 6, 36);
        faulty("a 5th MASTER, though its NAME is taken", masters(4) + "master ma;", 6, 40);
        faulty("a 5th MASTER, though it has no NAME", masters(4) + "master", 6, 40);
        faulty("a 13th LESSON, though its NAME can't be", lessons(12) + "lesson 5", 6, 300);
        faulty("a 5th CHILD, though no TOKEN follows", children(4) + "  child ?", 6, 38);
        taken("4 of each, mixed", masters(4) + children(4) + lessons(4), 4);
        taken("all behind one another, LESSONS first", lessons(12) + children(4) + masters(4), 12);
        taken("as many as there may be in the next SCHOOL, too", masters(4) + lessons(12) + children(4), 12)
            .school(masters(4) + lessons(12) + children(4)).is("many(1)", 12).is("many(0)", 4).is("many(2)", 4);
    }

    private static void number(String ahead, String behind, int least, int most, String asked) {
        for (int n : new int[] {least, most}) {
            taken("the NUMBER behind '" + ahead + "' from " + least + " to " + most, ahead + " " + n + behind, ahead.startsWith("l") ? 1 : 0)
                .is(asked, n);
        }
        if (least > 0) {
            faulty("the NUMBER behind '" + ahead + "' from " + least + " on", ahead + " " + (least - 1) + behind, 4, ahead.length() + 1);
        }
        for (int n : new int[] {most + 1, 9999}) {
            faulty("the NUMBER behind '" + ahead + "' up to " + most, ahead + " " + n + behind, 4, ahead.length() + 1);
        }
        faulty("the NUMBER behind '" + ahead + "', 0 and more digits", ahead + " 00000" + behind, 1, ahead.length() + 1);
        faulty("a WORD where a NUMBER must stand", ahead + " p" + behind, 2, ahead.length() + 1);
        faulty("a SIGN where a NUMBER must stand", ahead + behind, 2, ahead.length());
        faulty("the end where a NUMBER must stand", ahead + " ", 2, ahead.length() + 1);
    }

    private static void numbers() {
        number("lesson p gives a takes", ";", 1, 30, "lesson(0, 1)");
        number("lesson p gives a takes 1 costs", ";", 0, 99, "lesson(0, 2)");
        number("child p gift", ";", 0, 9, "child(0, 0)");
        number("child p purse", ";", 0, 999, "child(0, 1)");
        number("child p gift 9 purse", ";", 0, 999, "child(0, 1)");
        number("sounds", ";", 1, 9, "many(3)");
    }

    private static void withoutThem() {
        String old = "master m;lesson p gives a takes 9 costs 9;lesson q gives z takes 9 costs 9 by m needs p;child c gift 9 purse 9;sounds 9;";
        // Twice, since a SCHOOL that was replaced may be used again.
        Run r = of(10, "0, nobody, none, 2 where nothing is told", old).school(old);
        for (int i = 0; i < 2; i++) {
            r.school("lesson p gives a takes 1;lesson q gives a takes 1;child c;master m;");
            r.is("lesson(1, 2)", 0).no("lesson(1, 3)", 8).is("lesson(1, 4)", 0).is("child(0, 0)", 0).is("child(0, 1)", 0).is("many(3)", 2)
                .is("teaches(0)", 0);
        }
        r.faulty("school", "sounds 7;child z gift 7 purse 7;?", 1, 32).is("many(3)", 2).school("child c;").is("many(3)", 2).is("child(0, 0)", 0)
            .is("child(0, 1)", 0);
    }

    // ---- NAMES of things

    private static void needs() {
        taken("NEEDS of all that are told ahead", lessons(11) + "lesson z gives z takes 1 needs k a b c d e f g h i j;", 12).is("lesson(11, 4)", 2047);
        taken("NEEDS of one", lessons(11) + "lesson z gives z takes 1 needs k;", 12).is("lesson(11, 4)", 1024);
        faulty("NEEDS of none", "lesson p gives a takes 1 needs;", 2, 30);
        faulty("NEEDS of none at the end", "lesson p gives a takes 1 needs", 2, 30);
        faulty("NEEDED twice: at its NAME", "lesson p gives a takes 1;lesson q gives a takes 1 needs p p;", 5, 58);
        faulty("NEEDED twice, not side by side", lessons(11) + "lesson z gives z takes 1 needs a b c d e f g h i j k a;", 5, 275 + 31 + 22);
        taken("NEEDED by two", lessons(1) + "lesson y gives z takes 1 needs a;lesson z gives z takes 1 needs a y;", 3).is("lesson(1, 4)", 1)
            .is("lesson(2, 4)", 3);
    }

    private static void oneThingAlone() {
        String[] things = {"master same;", "lesson same gives a takes 1;", "child same;"};
        for (String first : things) {
            for (String second : things) {
                int place = first.length() + second.indexOf("same");
                faulty("a new NAME that is taken", first + second, 3, place);
                faulty("a new NAME that is taken, at the end", first + second.substring(0, second.indexOf("same") + 4), 3, place);
            }
        }
        of(10, "a NAME of the SCHOOL ahead is not taken", "master same;").school("lesson same gives a takes 1;").is("many(1)", 1);
        of(10, "a NAME of a SCHOOL with a FAULT is not taken").faulty("school", "master same;?", 1, 12).school("child same;").is("many(2)", 1);
    }

    private static void toldAhead() {
        faulty("a MASTER that is not told", "lesson p gives a takes 1 by m;", 3, 28);
        faulty("a MASTER that is told behind", "lesson p gives a takes 1 by m;master m;", 3, 28);
        faulty("a LESSON is no MASTER", "lesson m gives a takes 1;lesson p gives a takes 1 by m;", 3, 53);
        faulty("a CHILD is no MASTER", "child m;lesson p gives a takes 1 by m;", 3, 36);
        faulty("a LESSON is not told ahead of itself", "lesson p gives a takes 1 needs p;", 3, 31);
        faulty("a LESSON that is told behind", "lesson p gives a takes 1 needs q;lesson q gives a takes 1;", 3, 31);
        faulty("a MASTER is no LESSON", "master m;lesson p gives a takes 1 needs m;", 3, 40);
        faulty("a CHILD is no LESSON", "child m;lesson p gives a takes 1 needs m;", 3, 39);
        faulty("a LESSON that is not told, behind one that is", "lesson p gives a takes 1;lesson q gives a takes 1 needs p r;", 3, 58);
        of(10, "a MASTER of the SCHOOL ahead is not told", "master m;").faulty("school", "lesson p gives a takes 1 by m;", 3, 28);
        of(10, "a LESSON of the SCHOOL ahead is not told", lessons(2)).faulty("school", "lesson p gives a takes 1 needs a;", 3, 31);
    }

    // ---- where a TOKEN can't stand, the end

    private static void misfits() {
        for (String word : Run.RESERVED) {
            if (!word.equals("master") && !word.equals("lesson") && !word.equals("child") && !word.equals("sounds")) {
                faulty("no PART begins with '" + word + "'", "sounds 1;" + word, 2, 9);
            }
        }
        faulty("no PART begins with a NAME", "sounds 1;p", 2, 9);
        faulty("no PART is empty", "sounds 1;;", 2, 9);
        faulty("costs behind by", "master m;lesson p gives a takes 1 by m costs 1;", 2, 39);
        faulty("costs behind needs", lessons(1) + "lesson p gives a takes 1 needs a costs 1;", 2, 25 + 33);
        faulty("by behind needs", masters(1) + lessons(1) + "lesson p gives a takes 1 needs a by ma;", 2, 35 + 33);
        faulty("costs twice", "lesson p gives a takes 1 costs 1 costs 1;", 2, 33);
        faulty("by twice", "master m;lesson p gives a takes 1 by m by m;", 2, 39);
        faulty("needs twice", lessons(1) + "lesson p gives a takes 1 needs a needs a;", 2, 25 + 33);
        faulty("gift behind purse", "child p purse 1 gift 1;", 2, 16);
        faulty("gift twice", "child p gift 1 gift 1;", 2, 15);
        faulty("purse twice", "child p purse 1 purse 1;", 2, 16);
        faulty("takes ahead of gives", "lesson p takes 1 gives a;", 2, 9);
        faulty("gives twice", "lesson p gives a gives a takes 1;", 2, 17);
        faulty("two NAMES of a MASTER", "master m n;", 2, 9);
        faulty("two NUMBERS", "sounds 1 1;", 2, 9);
        for (String sign : new String[] {"<", ">", "="}) {
            faulty("'" + sign + "' ends no PART", "sounds 1" + sign, 2, 8);
        }
    }

    private static void theEnd() {
        String[] parts = {"master ann;", "lesson one gives a takes 5 costs 9 by ann;", "lesson two gives b takes 5 costs 9 by ann needs one;",
            "child eva gift 1 purse 1;", "sounds 1;"};
        String ahead = "";
        for (String part : parts) {
            for (int n = 1; n < part.length(); n++) {
                char last = part.charAt(n - 1);
                char next = part.charAt(n);
                if (next == ' ' || next == ';' || last == ' ') {
                    String text = ahead + part.substring(0, n);
                    faulty("the end: the text's length", text, 2, text.length());
                    faulty("the end behind blanks: the text's length", text + " \n ", 2, text.length() + 3);
                }
            }
            ahead += part;
            taken("the end behind a whole PART", ahead, ahead.contains("two") ? 2 : ahead.contains("one") ? 1 : 0);
        }
    }

    private static void twice() {
        faulty("sounds told already: at that WORD", "sounds 1;sounds 1;", 5, 9);
        faulty("sounds told already, though no NUMBER follows", "sounds 1;child p; sounds", 5, 18);
        faulty("sounds told already, though its NUMBER can't be", "sounds 1;sounds 0;", 5, 9);
        of(10, "sounds of the SCHOOL ahead are not told already", "sounds 1;").school("sounds 3;").is("many(3)", 3);
        of(10, "sounds of a SCHOOL with a FAULT are not told already").faulty("school", "sounds 1;?", 1, 9).school("sounds 3;").is("many(3)", 3);
    }

    /** A PART with a FAULT of each kind, and its place in the PART. */
    private static final String[] WRONG = {"", "?;", "child 5;", "child taken;", "child gifted gift 10;", "sounds 3;", "master moss;"};
    private static final int[] WRONG_AT = {0, 0, 6, 6, 18, 0, 0};

    private static void firstAlong() {
        String ahead = masters(4) + "child taken;sounds 2;";
        for (int kind = 1; kind <= 6; kind++) {
            for (int later = 1; later <= 6; later++) {
                faulty("the first FAULT along the text, " + kind + " ahead of " + later, ahead + WRONG[kind] + WRONG[later], kind,
                    ahead.length() + WRONG_AT[kind]);
            }
        }
    }

    private static void leastKind() {
        faulty("of one TOKEN the least kind, 1 ahead of 4", "sounds 99999;", 1, 7);
        faulty("of one TOKEN the least kind, 1 ahead of 2", "child 99999;", 1, 6);
        faulty("of one TOKEN the least kind, 2 ahead of 3", "child abcdefgh;child abcdefghi;", 2, 21);
        faulty("of one TOKEN the least kind, 2 ahead of 4", "sounds 1 99;", 2, 9);
        faulty("of one TOKEN the least kind, 2 ahead of 5", "sounds 1;child sounds;", 2, 15);
        faulty("of one TOKEN the least kind, 2 ahead of 6", masters(4) + "sounds master;", 2, 47);
    }

    // ---- what is told of texts and SCHOOLS

    private static void whatFaultTells() {
        rich(12, "what 0 and 1").tells("fault(0)", 1).tells("fault(1)", 2);
        rich(12, "NONE for others").tells("fault(-1)", -1).tells("fault(2)", -1).tells("fault(MIN)", -1).tells("fault(MAX)", -1);
        of(12, "NONE ahead of any").tells("fault(0)", -1).tells("fault(1)", -1).no(5, "school(1)", "age(-1)").tells("fault(0)", -1)
            .tells("fault(1)", -1);
        rich(12, "5 does not matter").no(5, "school(21)", "school(-1)", "age(21)", "age(301)").tells("fault(0)", 1).tells("fault(1)", 2);
        rich(12, "0, NONE without a FAULT, by school()").is("school(20)", 0).tells("fault(0)", 0).tells("fault(1)", -1);
        rich(12, "0, NONE without a FAULT, by age()").is("age(0)", 0).tells("fault(0)", 0).tells("fault(1)", -1);
        of(12, "the latest of these").faulty("age", " ?", 1, 1).faulty("school", "child", 2, 5).faulty("age", "loop 0", 4, 5).is("age(0)", 0)
            .tells("fault(0)", 0).tells("fault(1)", -1);
        of(12, "a FAULT at place 0").faulty("school", "?", 1, 0);
        rich(12, "back() leaves it").is("back()", 1).tells("fault(0)", 1).tells("fault(1)", 2);
    }

    private static void askingMany() {
        rich(13, "what 0 to 3").same("many(0)", 2).same("many(1)", 5).same("many(2)", 3).same("many(3)", 1);
        rich(13, "5 else").no(5, "many(-1)", "many(4)", "many(MIN)", "many(MAX)");
    }

    private static final String FULL = masters(4) + lessons(11) + "lesson z gives z takes 30 costs 99 by md needs a b c d e f g h i j k;"
        + "child ca gift 9 purse 999;child cb;child cc;child cd;sounds 9;";

    private static void askingLessons() {
        Run r = rich(14, "what 0 to 4");
        int[] due = {14, 4, 2, 1, 2};
        for (int what = 0; what < 5; what++) {
            r.same("lesson(2, " + what + ")", due[what]);
        }
        rich(14, "8: nobody").no("lesson(3, 3)", 8).no("lesson(4, 3)", 8).same("lesson(0, 3)", 0);
        rich(14, "no such LESSON").no(2, "lesson(-1, 0)", "lesson(5, 0)", "lesson(12, 0)", "lesson(MIN, 0)", "lesson(MAX, 0)");
        rich(14, "no such what").no(5, "lesson(0, -1)", "lesson(0, 5)", "lesson(0, MIN)", "lesson(0, MAX)", "lesson(3, 5)");
        rich(14, "2 ahead of 5").no(2, "lesson(5, 5)", "lesson(-1, -1)");
        of(14, "the last of twelve", FULL).is("lesson(11, 0)", 26).is("lesson(11, 1)", 30).is("lesson(11, 2)", 99).is("lesson(11, 3)", 3)
            .is("lesson(11, 4)", 2047).is("lesson(0, 4)", 0).no("lesson(12, 0)", 2);
    }

    private static void askingChildren() {
        Run r = rich(15, "what 0 to 4");
        int[] due = {2, 10, 1 + 3 + 3, 2, 3};
        for (int what = 0; what < 5; what++) {
            r.same("child(0, " + what + ")", due[what]);
        }
        rich(15, "a CHILD that has learnt nothing").same("child(2, 2)", 0).same("child(2, 3)", 0).same("child(2, 4)", 0).same("child(2, 1)", 6);
        rich(15, "no such CHILD").no(2, "child(-1, 0)", "child(3, 0)", "child(4, 0)", "child(MIN, 0)", "child(MAX, 0)");
        rich(15, "no such what").no(5, "child(0, -1)", "child(0, 5)", "child(0, MIN)", "child(0, MAX)");
        rich(15, "2 ahead of 5").no(2, "child(3, 5)", "child(-1, -1)");
        of(15, "the last of four", FULL).is("child(3, 0)", 0).no("child(4, 0)", 2);
        Run all = of(15, "a NAME of twelve LETTERS, the set of all", FULL);
        for (int l = 0; l < 12; l++) {
            all.is("learn(0, " + l + ")", l + 1);
        }
        all.is("child(0, 3)", 12).is("child(0, 4)", 4095).is("child(0, 1)", 900).is("child(0, 2)", 11 + 21);
    }

    private static void askingLetters() {
        rich(16, "the first and the last place, what 0 and 1").same("letter(0, 0, 0)", 14).same("letter(0, 0, 1)", 1).same("letter(0, 1, 0)", 1)
            .same("letter(0, 1, 1)", 0);
        rich(16, "no such place").no(8, "letter(0, 2, 0)", "letter(0, -1, 0)", "letter(0, MIN, 1)", "letter(0, MAX, 1)", "letter(1, 1, 1)");
        rich(16, "an empty NAME has no place").no(8, "letter(2, 0, 0)", "letter(2, 0, 1)");
        rich(16, "no such what").no(5, "letter(0, 0, -1)", "letter(0, 0, 2)", "letter(0, 0, MIN)", "letter(0, 0, MAX)");
        rich(16, "no such CHILD").no(2, "letter(-1, 0, 0)", "letter(3, 0, 0)", "letter(MIN, 0, 0)", "letter(MAX, 0, 0)");
        rich(16, "2 ahead of 5 ahead of 8").no("letter(3, 9, 9)", 2).no("letter(0, 9, 9)", 5).no("letter(0, 9, 0)", 8);
        Run all = of(16, "the twelfth place", FULL);
        for (int l = 0; l < 12; l++) {
            all.go("learn(0, " + l + ")");
        }
        all.is("letter(0, 11, 0)", 26).is("letter(0, 11, 1)", 11).no(8, "letter(0, 12, 0)", "letter(0, 12, 1)");
    }

    private static void askingMasters() {
        rich(17, "the set of LESSONS").same("teaches(0)", 3).same("teaches(1)", 4);
        rich(17, "no such MASTER").no(2, "teaches(-1)", "teaches(2)", "teaches(4)", "teaches(MIN)", "teaches(MAX)");
        of(17, "the last of four, those who teach none", FULL).is("teaches(3)", 2048).is("teaches(0)", 0).no("teaches(4)", 2);
        StringBuilder text = new StringBuilder("master m;");
        for (int l = 0; l < 12; l++) {
            text.append("lesson ").append((char) ('a' + l)).append(" gives a takes 1 by m;");
        }
        of(17, "one who teaches all", text.toString()).is("teaches(0)", 4095);
    }

    private static void copying() {
        rich(18, "LETTER by LETTER, the rest stays").is("copyName(0, 3)", 2).is("read(3, 0)", 14).is("read(3, 1)", 1).is("read(3, 2)", 14);
        rich(18, "just as many places").is("copyName(0, 0)", 2).is("read(0, 0)", 14).is("read(0, 1)", 1);
        rich(18, "too few places").go("tray(2, 0, 1)").no("copyName(0, 2)", 4).is("copyName(1, 2)", 1).is("read(2, 0)", 14);
        rich(18, "an empty NAME, an empty TRAY").go("tray(2, 0, 0)").same("copyName(2, 2)", 0).no("copyName(1, 2)", 4).same("copyName(2, 0)", 0);
        rich(18, "no such TRAY").no(1, "copyName(0, -1)", "copyName(0, 4)", "copyName(0, MIN)", "copyName(0, MAX)");
        rich(18, "a MISSING one").no("copyName(0, 2)", 3);
        rich(18, "no such CHILD").no(2, "copyName(-1, 0)", "copyName(3, 0)", "copyName(MIN, 0)", "copyName(MAX, 0)");
        rich(18, "1 ahead of 3 ahead of 2 ahead of 4").no("copyName(3, 4)", 1).no("copyName(3, 2)", 3).go("tray(2, 0, 0)").no("copyName(3, 2)", 2)
            .no("copyName(0, 2)", 4);
        for (int sort = 0; sort < 4; sort++) {
            Run all = of(18, "twelve LETTERS, up to z, to sort " + sort, FULL).go("tray(0, " + sort + ", 12)", "tray(1, " + sort + ", 11)");
            for (int l = 0; l < 12; l++) {
                all.go("learn(0, " + l + ")");
            }
            all.no("copyName(0, 1)", 4).is("copyName(0, 0)", 12).is("read(0, 10)", 1).is("read(0, 11)", 26);
        }
    }
}
