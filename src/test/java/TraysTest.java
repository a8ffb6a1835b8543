/** Promises 1 to 8: a new object, status, fractions, trays. */
final class TraysTest {
    private static final Check check = new Check("TraysTest");

    public static void main(String[] args) {
        newObject();
        trays();
        numbersAreCut();
        readsAndWrites();
        pours();
        poursRefused();
        statusIsOfTheLatest();
        check.finish();
    }

    private static void newObject() {
        LetterNames x = new LetterNames();
        check.due("status()", x.status(), 0);
        check.due("top()", x.top(), 0);
        check.due("bottom()", x.bottom(), 1);
        check.due("fault(0)", x.fault(0), -1);
        check.due("fault(1)", x.fault(1), -1);
        check.refused("school(1)", x, x.school(1), 5);
        for (int t = 0; t < 4; t++) {
            check.refused("read of a missing tray", x, x.read(t, 0), 3);
        }
        check.taken("many(0)", x, x.many(0), 0);
        check.taken("many(1)", x, x.many(1), 0);
        check.taken("many(2)", x, x.many(2), 0);
        check.taken("many(3)", x, x.many(3), 2);
        check.refused("live(0)", x, x.live(0), 8);
        check.refused("lived(0)", x, x.lived(0), 8);
        check.refused("firstAt(0)", x, x.firstAt(0), 8);
        check.refused("back()", x, x.back(), 8);
        check.refused("root()", x, x.root(), 8);
        check.taken("plans()", x, x.plans(), 0);
        check.due("two NONEs", LetterNames.NONE, -1);
    }

    private static void trays() {
        LetterNames x = new LetterNames();
        check.agreed("tray(0, 0, 0)", x, x.tray(0, 0, 0));
        check.refused("read of an empty tray", x, x.read(0, 0), 4);
        check.agreed("tray(3, 3, 60)", x, x.tray(3, 3, 60));
        check.agreed("write(3, 59, 7)", x, x.write(3, 59, 7));
        check.denied("tray(3, 3, 61)", x, x.tray(3, 3, 61), 5);
        check.denied("tray(3, 3, -1)", x, x.tray(3, 3, -1), 6);
        check.denied("tray(4, 3, 61)", x, x.tray(4, 3, 61), 1);
        check.denied("tray(-1, 3, -1)", x, x.tray(-1, 3, -1), 1);
        check.denied("tray(3, 4, 61)", x, x.tray(3, 4, 61), 1);
        check.denied("tray(3, -1, 1)", x, x.tray(3, -1, 1), 1);
        check.denied("tray(3, 0, least)", x, x.tray(3, 0, Integer.MIN_VALUE), 6);
        check.denied("tray(3, 0, most)", x, x.tray(3, 0, Integer.MAX_VALUE), 5);
        check.taken("read(3, 59) stays", x, x.read(3, 59), 7);
        check.agreed("tray(3, 3, 60) again", x, x.tray(3, 3, 60));
        check.taken("read(3, 59) is 0", x, x.read(3, 59), 0);
        x.write(3, 5, 9);
        x.tray(3, 3, 2);
        x.tray(3, 3, 60);
        check.taken("read(3, 5) is 0", x, x.read(3, 5), 0);
    }

    private static void numbersAreCut() {
        long[] wanted = {(byte) 0x123456789ABCDEF0L, (short) 0x123456789ABCDEF0L, (int) 0x123456789ABCDEF0L, 0x123456789ABCDEF0L};
        LetterNames x = new LetterNames();
        for (int sort = 0; sort < 4; sort++) {
            x.tray(sort, sort, 2);
            x.write(sort, 1, 0x123456789ABCDEF0L);
            check.taken("cut to sort " + sort, x, x.read(sort, 1), wanted[sort]);
            x.write(sort, 1, -1L);
            check.taken("-1 in sort " + sort, x, x.read(sort, 1), -1);
        }
        x.write(0, 0, 128);
        check.taken("128 in 8 bits", x, x.read(0, 0), -128);
        x.write(1, 0, 32768);
        check.taken("32768 in 16 bits", x, x.read(1, 0), -32768);
        x.write(2, 0, 1L << 31);
        check.taken("2 to the 31 in 32 bits", x, x.read(2, 0), Integer.MIN_VALUE);
    }

    private static void readsAndWrites() {
        LetterNames x = new LetterNames();
        x.tray(1, 1, 3);
        check.denied("write(4, 0, 1)", x, x.write(4, 0, 1), 1);
        check.denied("write(-1, 0, 1)", x, x.write(-1, 0, 1), 1);
        check.denied("write(0, 9, 1)", x, x.write(0, 9, 1), 3);
        check.denied("write(1, 3, 1)", x, x.write(1, 3, 1), 4);
        check.denied("write(1, -1, 1)", x, x.write(1, -1, 1), 4);
        check.refused("read(4, 0)", x, x.read(4, 0), 1);
        check.refused("read(-1, 0)", x, x.read(-1, 0), 1);
        check.refused("read(0, 9)", x, x.read(0, 9), 3);
        check.refused("read(1, 3)", x, x.read(1, 3), 4);
        check.refused("read(1, -1)", x, x.read(1, -1), 4);
        check.agreed("write(1, 2, 5)", x, x.write(1, 2, 5));
        check.taken("read(1, 2)", x, x.read(1, 2), 5);
        check.taken("read(1, 1)", x, x.read(1, 1), 0);
    }

    private static void pours() {
        LetterNames x = new LetterNames();
        Check.lay(x, 0, 1, 2, 3, 4, 5);
        Check.lay(x, 1, 9, 9, 9);
        check.agreed("pour(0, 1, 1, 0, 2)", x, x.pour(0, 1, 1, 0, 2));
        row(x, 1, 2, 3, 9);
        check.agreed("pour onto itself, up", x, x.pour(0, 0, 0, 1, 4));
        row(x, 0, 1, 1, 2, 3, 4);
        Check.lay(x, 0, 1, 2, 3, 4, 5);
        check.agreed("pour onto itself, down", x, x.pour(0, 1, 0, 0, 4));
        row(x, 0, 2, 3, 4, 5, 5);
        check.agreed("pour of none", x, x.pour(0, 0, 1, 0, 0));
        row(x, 1, 2, 3, 9);
        check.agreed("pour of all", x, x.pour(1, 0, 0, 2, 3));
        row(x, 0, 2, 3, 2, 3, 9);
    }

    private static void poursRefused() {
        LetterNames x = new LetterNames();
        check.denied("pour(4, ..)", x, x.pour(4, 0, 0, 0, -1), 1);
        check.denied("pour(0, .. to -1)", x, x.pour(0, 0, -1, 0, -1), 1);
        check.denied("pour of a missing one", x, x.pour(0, 0, 1, 0, -1), 3);
        Check.lay(x, 0, 1, 2, 3);
        check.denied("pour to a missing one", x, x.pour(0, 0, 1, 0, -1), 3);
        check.denied("pour from a missing one", x, x.pour(1, 0, 0, 0, -1), 3);
        x.tray(1, 2, 3);
        check.denied("pour, unlike sorts", x, x.pour(0, 9, 1, 9, -1), 11);
        Check.lay(x, 1, 4, 5, 6);
        check.denied("pour of -1", x, x.pour(0, 9, 1, 9, -1), 6);
        check.denied("pour, i too high", x, x.pour(0, 2, 1, 0, 2), 4);
        check.denied("pour, j too high", x, x.pour(0, 0, 1, 2, 2), 4);
        check.denied("pour, i below 0", x, x.pour(0, -1, 1, 0, 1), 4);
        check.denied("pour, j below 0", x, x.pour(0, 0, 1, -1, 1), 4);
        check.denied("pour of too many", x, x.pour(0, 0, 1, 0, Integer.MAX_VALUE), 4);
        check.denied("pour, i highest", x, x.pour(0, Integer.MAX_VALUE, 1, 0, 1), 4);
        check.denied("pour, j highest", x, x.pour(0, 0, 1, Integer.MAX_VALUE, Integer.MAX_VALUE), 4);
        row(x, 1, 4, 5, 6);
    }

    private static void row(LetterNames x, int tray, long... wanted) {
        for (int p = 0; p < wanted.length; p++) {
            check.taken("read(" + tray + ", " + p + ")", x, x.read(tray, p), wanted[p]);
        }
        check.refused("read behind it", x, x.read(tray, wanted.length), 4);
    }

    private static void statusIsOfTheLatest() {
        LetterNames x = new LetterNames();
        x.many(9);
        check.due("status()", x.status(), 5);
        x.feed(0, 0, 0, 0, 0);
        x.fault(0);
        x.top();
        x.bottom();
        x.status();
        check.due("status() behind calls without one", x.status(), 5);
        x.many(0);
        check.due("status()", x.status(), 0);
    }
}
