/** Promises 9, 10, 12 to 18: the tape, schools and their faults, what is told of them. */
final class SchoolsTest {
    private static final Check check = new Check("SchoolsTest");
    private static final String HALL =
        "master ann;master bob;lesson one gives a takes 5 costs 10 by ann;lesson two gives n takes 3 by ann;"
        + "lesson tri gives n takes 4 costs 2 by bob needs two;lesson qua gives z takes 30 needs one;"
        + "lesson fiv gives s takes 1 costs 99 needs two qua;child eva gift 9 purse 999;child ida purse 0;child oda gift 0;child uta;sounds 9;";

    public static void main(String[] args) {
        tape();
        schoolsTaken();
        schoolsAnew();
        firstTokens();
        misfits();
        names();
        numbers();
        twice();
        tooMany();
        firstAlong();
        whatFaultTells();
        telling();
        letters();
        copies();
        check.finish();
    }

    private static void tape() {
        LetterNames x = new LetterNames();
        for (int i = 1; i <= 45; i++) {
            check.due("feed", x.feed(0x20202020, 0x20202020, 0x20202020, 0x20202020, 0x20202020), 20 * i);
        }
        check.due("feed above 900", x.feed(0, 0, 0, 0, 0), -1);
        check.due("status of feed", x.status(), 0);
        check.refused("school(901)", x, x.school(901), 5);
        check.refused("school(-1)", x, x.school(-1), 5);
        check.refused("age(301)", x, x.age(301), 5);
        check.taken("school(900)", x, x.school(900), 0);
        check.due("fault(1)", x.fault(1), -1);
        check.due("feed on an empty tape", x.feed(0, 0, 0, 0, 0), 20);
        check.refused("school(21)", x, x.school(21), 5);
        check.due("feed behind 5", x.feed(0, 0, 0, 0, 0), 40);
        check.refused("school(40)", x, x.school(40), 10);
        check.due("feed behind 10", x.feed(0, 0, 0, 0, 0), 20);
        check.taken("school(0)", x, x.school(0), 0);
        check.due("feed behind 0", x.feed(0, 0, 0, 0, 0), 20);
        LetterNames y = new LetterNames();
        y.feed(0x736f756e, 0x64732035, 0x3b80ff00, 0, 0);
        check.taken("the highest byte first", y, y.school(9), 0);
        check.taken("many(3)", y, y.many(3), 5);
        Check.feed(y, "sounds 25;");
        check.refused("a text that ends within a number", y, y.school(8), 10);
        check.due("fault(0)", y.fault(0), 2);
        check.due("fault(1)", y.fault(1), 8);
        Check.feed(y, "soundso");
        check.refused("a text that ends within a word", y, y.school(6), 10);
        check.due("fault(0)", y.fault(0), 2);
        check.due("fault(1)", y.fault(1), 6);
    }

    private static void schoolsTaken() {
        LetterNames x = new LetterNames();
        check.taken("school", x, Check.school(x, HALL), 5);
        check.taken("school of blanks", x, Check.school(x, " \n  \n"), 0);
        check.taken("many(3)", x, x.many(3), 2);
        check.taken("no blanks needed", x, Check.school(x, "lesson a gives a takes1costs2;child b gift3purse4;sounds1;"), 1);
        check.taken("lesson(0, 1)", x, x.lesson(0, 1), 1);
        check.taken("lesson(0, 2)", x, x.lesson(0, 2), 2);
        check.taken("child(0, 0)", x, x.child(0, 0), 3);
        check.taken("child(0, 1)", x, x.child(0, 1), 4);
        check.taken("blanks anywhere", x, Check.school(x, "\nlesson\n a gives\na takes 0007 ;\n"), 1);
        check.taken("lesson(0, 1)", x, x.lesson(0, 1), 7);
        check.taken("names of 8", x, Check.school(x, "lesson abcdefgh gives z takes 1;lesson b gives y takes 1 needs abcdefgh;"), 2);
        check.taken("many things", x, Check.school(x, "master a;master b;master c;master d;child e;child f;child g;child h;"), 0);
        check.taken("twelve", x, Check.school(x, lessons(12)), 12);
        check.taken("needs of all", x, Check.school(x, lessons(11) + "lesson z gives z takes 1 needs a b c d e f g h i j k;"), 12);
        check.taken("lesson(11, 4)", x, x.lesson(11, 4), 2047);
    }

    private static String lessons(int many) {
        StringBuilder text = new StringBuilder();
        for (int l = 0; l < many; l++) {
            text.append("lesson ").append((char) ('a' + l)).append(" gives a takes 1;");
        }
        return text.toString();
    }

    private static void schoolsAnew() {
        LetterNames x = Check.of(HALL);
        Check.learnAll(x, 0, 1, 0);
        x.rest(0, 7);
        x.pay(1, 5);
        Check.age(x, "stop;");
        check.taken("an age is there", x, x.live(0), 1);
        check.refused("a school with a fault", x, Check.school(x, "sounds 3; child"), 10);
        check.taken("the old one stays", x, x.many(1), 5);
        check.taken("its sounds stay", x, x.many(3), 9);
        check.taken("its names stay", x, x.child(0, 3), 2);
        check.taken("its age stays", x, x.live(0), 1);
        check.taken("school again", x, Check.school(x, HALL), 5);
        check.taken("nobody learnt", x, x.child(0, 3), 0);
        check.taken("nobody knows", x, x.child(0, 4), 0);
        check.taken("clocks at 0", x, x.child(0, 2), 0);
        check.taken("purses anew", x, x.child(1, 1), 0);
        check.refused("no age", x, x.live(0), 8);
        for (int i = 9; i > 6; i--) {
            Check.school(x, "child a gift 9 purse 9;sounds " + i + ";");
            x.age(0);
        }
        for (int i = 0; i < 2; i++) {
            Check.school(x, "child a;lesson b gives b takes 1;");
            check.taken("sounds anew", x, x.many(3), 2);
            check.taken("gifts anew", x, x.child(0, 0), 0);
            check.taken("purses anew", x, x.child(0, 1), 0);
            check.taken("lessons anew", x, x.lesson(0, 4), 0);
            check.refused("lessons anew", x, x.lesson(0, 3), 8);
            check.refused("no age", x, x.live(0), 8);
            Check.learnAll(x, 0, 0);
        }
    }

    private static void fault(String text, int kind, int place) {
        LetterNames x = Check.of("sounds 7;");
        check.refused("school '" + text + "'", x, Check.school(x, text), 10);
        check.due("fault(0) of '" + text + "'", x.fault(0), kind);
        check.due("fault(1) of '" + text + "'", x.fault(1), place);
        check.due("fault(2)", x.fault(2), -1);
        check.due("fault(-1)", x.fault(-1), -1);
        check.taken("the old school stays", x, x.many(3), 7);
    }

    private static void firstTokens() {
        fault("?", 1, 0);
        fault(" \n A", 1, 3);
        fault("\u00e9", 1, 0);
        fault("\tsounds 2;", 1, 0);
        fault("\rsounds 2;", 1, 0);
        fault("sounds\0", 1, 6);
        fault("sounds 12345;", 1, 7);
        fault("12345", 1, 0);
        fault("child eva gift 00001;", 1, 15);
        fault("sounds 2;master a-b;", 1, 17);
        fault("child eva gift ,", 1, 15);
        fault("lesson one gives .", 1, 17);
        fault("lesson one gives a takes 1 needs :", 1, 33);
        fault("child eva (", 1, 10);
    }

    private static void misfits() {
        fault("one", 2, 0);
        fault("5", 2, 0);
        fault(";", 2, 0);
        fault("sounds 2;;", 2, 9);
        fault("gives", 2, 0);
        fault("learn", 2, 0);
        fault("sounds", 2, 6);
        fault("sounds   ", 2, 9);
        fault("sounds two;", 2, 7);
        fault("sounds 2", 2, 8);
        fault("sounds 2 3;", 2, 9);
        fault("sounds 2 <", 2, 9);
        fault("master ;", 2, 7);
        fault("master 5;", 2, 7);
        fault("master stop;", 2, 7);
        fault("master abcdefghi;", 2, 7);
        fault("master ann bob;", 2, 11);
        fault("lesson one takes", 2, 11);
        fault("lesson one gives ab takes 1;", 2, 17);
        fault("lesson one gives 5 takes 1;", 2, 17);
        fault("lesson one gives by", 2, 17);
        fault("lesson one gives takes 5;", 2, 17);
        fault("lesson one gives a costs", 2, 19);
        fault("lesson one gives a takes a", 2, 25);
        fault("lesson one gives a takes 1 one;", 2, 27);
        fault("lesson one gives a takes 1 costs;", 2, 32);
        fault("lesson one gives a takes 1 costs 1 costs 2;", 2, 35);
        fault("master ann;lesson one gives a takes 1 by ann costs 2;", 2, 45);
        fault("master ann;lesson one gives a takes 1 by ;", 2, 41);
        fault("master ann;lesson one gives a takes 1 by 7;", 2, 41);
        fault("lesson one gives a takes 1 needs ;", 2, 33);
        fault("lesson one gives a takes 1;lesson two gives a takes 1 needs one by", 2, 64);
        fault("lesson one gives a takes 1;lesson two gives a takes 1 needs one 5", 2, 64);
        fault("lesson one gives a takes 1;lesson two gives a takes 1 needs one onehundred;", 2, 64);
        fault("child eva purse 1 gift 1;", 2, 18);
        fault("child eva gift purse", 2, 15);
        fault("child loop;", 2, 6);
        for (String word : ("master lesson gives takes costs by needs child gift purse sounds learn lose fate rest pay when long says"
            + " knows loop end stop").split(" ")) {
            fault("child " + word + ";", 2, 6);
        }
    }

    private static void names() {
        fault("master ann;master ann;", 3, 18);
        fault("master ann;child ann;", 3, 17);
        fault("child ann;lesson ann gives", 3, 17);
        fault("lesson ann gives a takes 1;master ann;", 3, 34);
        fault("lesson one gives a takes 1 by ann;", 3, 30);
        fault("child ann;lesson one gives a takes 1 by ann;", 3, 40);
        fault("lesson two gives a takes 1;lesson one gives a takes 1 by two;", 3, 57);
        fault("lesson one gives a takes 1 needs one;", 3, 33);
        fault("lesson one gives a takes 1 needs two;lesson two gives b takes 1;", 3, 33);
        fault("master ann;lesson one gives a takes 1 needs ann;", 3, 44);
    }

    private static void numbers() {
        fault("sounds 0;", 4, 7);
        fault("sounds 10;", 4, 7);
        fault("lesson one gives a takes 0;", 4, 25);
        fault("lesson one gives a takes 31;", 4, 25);
        fault("lesson one gives a takes 1 costs 100;", 4, 33);
        fault("child eva gift 10;", 4, 15);
        fault("child eva purse 1000;", 4, 16);
        fault("child eva gift 9 purse 9999", 4, 23);
    }

    private static void twice() {
        fault("sounds 2;sounds 3;", 5, 9);
        fault("sounds 2;child a;sounds", 5, 17);
        fault("lesson a gives a takes 1;lesson b gives b takes 1 needs a a;", 5, 58);
        fault("lesson a gives a takes 1;lesson b gives b takes 1;lesson c gives c takes 1 needs b a b;", 5, 85);
    }

    private static void tooMany() {
        fault("master a;master b;master c;master d;master a;", 6, 36);
        fault("child a;child b;child c;child d;\n child 5", 6, 34);
        fault(lessons(12) + "lesson", 6, lessons(12).length());
    }

    private static void firstAlong() {
        fault("sounds 0;?", 4, 7);
        fault("master a;master a;?", 3, 16);
        fault("child eva gift ten 12345", 2, 15);
        fault("sounds 99 12345", 4, 7);
        fault("lesson one gives a takes 1 by nobody needs;", 3, 30);
    }

    private static void whatFaultTells() {
        LetterNames x = new LetterNames();
        x.school(5);
        check.due("fault(0) ahead of any", x.fault(0), -1);
        check.due("fault(1) ahead of any", x.fault(1), -1);
        Check.school(x, "  ?");
        check.due("fault(0)", x.fault(0), 1);
        check.due("fault(1)", x.fault(1), 2);
        x.school(5);
        check.due("fault(0) behind 5", x.fault(0), 1);
        Check.age(x, "stop");
        check.due("fault(0) of an age", x.fault(0), 2);
        check.due("fault(1) of an age", x.fault(1), 4);
        Check.age(x, "stop;");
        check.due("fault(0) without one", x.fault(0), 0);
        check.due("fault(1) without one", x.fault(1), -1);
    }

    private static void telling() {
        LetterNames x = Check.of(HALL);
        int[] many = {2, 5, 4, 9};
        for (int what = 0; what < 4; what++) {
            check.taken("many(" + what + ")", x, x.many(what), many[what]);
        }
        check.refused("many(4)", x, x.many(4), 5);
        check.refused("many(-1)", x, x.many(-1), 5);
        int[][] lessons = {{1, 5, 10, 0, 0}, {14, 3, 0, 0, 0}, {14, 4, 2, 1, 2}, {26, 30, 0, -1, 1}, {19, 1, 99, -1, 10}};
        for (int l = 0; l < 5; l++) {
            for (int what = 0; what < 5; what++) {
                check.due("lesson(" + l + ", " + what + ")", x.lesson(l, what), lessons[l][what]);
                check.due("its status", x.status(), lessons[l][what] == -1 ? 8 : 0);
            }
        }
        check.refused("lesson(5, 9)", x, x.lesson(5, 9), 2);
        check.refused("lesson(-1, 0)", x, x.lesson(-1, 0), 2);
        check.refused("lesson(3, 5)", x, x.lesson(3, 5), 5);
        check.refused("lesson(3, -1)", x, x.lesson(3, -1), 5);
        int[][] children = {{9, 999, 0, 0, 0}, {0, 0, 0, 0, 0}, {0, 0, 0, 0, 0}, {0, 0, 0, 0, 0}};
        for (int c = 0; c < 4; c++) {
            for (int what = 0; what < 5; what++) {
                check.taken("child(" + c + ", " + what + ")", x, x.child(c, what), children[c][what]);
            }
        }
        check.refused("child(4, 9)", x, x.child(4, 9), 2);
        check.refused("child(-1, 0)", x, x.child(-1, 0), 2);
        check.refused("child(0, 5)", x, x.child(0, 5), 5);
        check.refused("child(0, -1)", x, x.child(0, -1), 5);
        check.taken("teaches(0)", x, x.teaches(0), 3);
        check.taken("teaches(1)", x, x.teaches(1), 4);
        check.refused("teaches(2)", x, x.teaches(2), 2);
        check.refused("teaches(-1)", x, x.teaches(-1), 2);
        Check.school(x, "master ann;");
        check.taken("teaches nothing", x, x.teaches(0), 0);
    }

    private static void letters() {
        LetterNames x = Check.of(HALL);
        Check.learnAll(x, 0, 1, 0, 3);
        int[][] wanted = {{14, 1}, {1, 0}, {26, 3}};
        for (int p = 0; p < 3; p++) {
            check.taken("letter", x, x.letter(0, p, 0), wanted[p][0]);
            check.taken("its lesson", x, x.letter(0, p, 1), wanted[p][1]);
        }
        check.taken("child(0, 2)", x, x.child(0, 2), 1 + 1 + 21);
        check.taken("child(0, 3)", x, x.child(0, 3), 3);
        check.taken("child(0, 4)", x, x.child(0, 4), 11);
        check.refused("letter(4, ..)", x, x.letter(4, 9, 9), 2);
        check.refused("letter(-1, ..)", x, x.letter(-1, 0, 0), 2);
        check.refused("letter(0, 9, 2)", x, x.letter(0, 9, 2), 5);
        check.refused("letter(0, 0, -1)", x, x.letter(0, 0, -1), 5);
        check.refused("letter(0, 3, 0)", x, x.letter(0, 3, 0), 8);
        check.refused("letter(0, -1, 1)", x, x.letter(0, -1, 1), 8);
        check.refused("letter(1, 0, 1)", x, x.letter(1, 0, 1), 8);
    }

    private static void copies() {
        LetterNames x = Check.of(HALL);
        Check.learnAll(x, 0, 1, 0, 3);
        check.refused("copyName to no tray", x, x.copyName(9, 4), 1);
        check.refused("copyName to no tray", x, x.copyName(0, -1), 1);
        check.refused("copyName to a missing tray", x, x.copyName(9, 0), 3);
        x.tray(0, 0, 2);
        check.refused("copyName of nobody", x, x.copyName(9, 0), 2);
        check.refused("copyName of nobody", x, x.copyName(-1, 0), 2);
        check.refused("copyName, too few places", x, x.copyName(0, 0), 4);
        check.taken("read(0, 0)", x, x.read(0, 0), 0);
        Check.lay(x, 0, 7, 7, 7, 7);
        check.taken("copyName", x, x.copyName(0, 0), 3);
        long[] wanted = {14, 1, 26, 7};
        for (int p = 0; p < 4; p++) {
            check.taken("read", x, x.read(0, p), wanted[p]);
        }
        x.tray(1, 0, 0);
        check.taken("copyName of an empty name", x, x.copyName(1, 1), 0);
    }
}
