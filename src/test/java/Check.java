/** Counts what is not as due, tells it, and ends a test with exit code 1 if there was any. */
final class Check {
    private final String test;
    private int asked;
    private int wrong;

    Check(String test) {
        this.test = test;
    }

    void due(String call, long got, long want) {
        asked++;
        if (got != want) {
            wrong++;
            System.out.println(test + ": " + call + " answered " + got + ", due is " + want);
        }
    }

    void due(String call, boolean got, boolean want) {
        due(call, got ? 1L : 0L, want ? 1L : 0L);
    }

    /** A call that is refused: it gives NONE and this STATUS. */
    void refused(String call, LetterNames x, long got, int status) {
        due(call, got, -1L);
        due(call + " status", x.status(), status);
    }

    void denied(String call, LetterNames x, boolean got, int status) {
        due(call, got, false);
        due(call + " status", x.status(), status);
    }

    /** A call that is taken: it gives this and STATUS 0. */
    void taken(String call, LetterNames x, long got, long want) {
        due(call, got, want);
        due(call + " status", x.status(), 0L);
    }

    void agreed(String call, LetterNames x, boolean got) {
        due(call, got, true);
        due(call + " status", x.status(), 0L);
    }

    void fraction(String call, LetterNames x, boolean got, long top, long bottom) {
        agreed(call, x, got);
        due(call + " top", x.top(), top);
        due(call + " bottom", x.bottom(), bottom);
    }

    void finish() {
        System.out.println(test + ": " + asked + " asked, " + wrong + " not as due");
        if (wrong != 0) {
            System.exit(1);
        }
    }

    /** Feeds a text, filled with blanks to whole twenties; the text's length. */
    static int feed(LetterNames x, String text) {
        for (int at = 0; at < text.length(); at += 20) {
            int[] five = new int[5];
            for (int i = 0; i < 20; i++) {
                five[i / 4] = five[i / 4] << 8 | (at + i < text.length() ? text.charAt(at + i) & 255 : ' ');
            }
            x.feed(five[0], five[1], five[2], five[3], five[4]);
        }
        return text.length();
    }

    static int school(LetterNames x, String text) {
        return x.school(feed(x, text));
    }

    static int age(LetterNames x, String text) {
        return x.age(feed(x, text));
    }

    static LetterNames of(String text) {
        LetterNames x = new LetterNames();
        school(x, text);
        if (x.status() != 0) {
            throw new IllegalStateException("the test's own school has fault " + x.fault(0) + " at " + x.fault(1));
        }
        return x;
    }

    static void lay(LetterNames x, int tray, long... numbers) {
        x.tray(tray, 3, numbers.length);
        for (int p = 0; p < numbers.length; p++) {
            x.write(tray, p, numbers[p]);
        }
    }

    /** A told name, letter by letter. */
    static int tell(LetterNames x, int tray, String name) {
        long[] letters = new long[name.length()];
        for (int p = 0; p < letters.length; p++) {
            letters[p] = name.charAt(p) - 'a' + 1;
        }
        lay(x, tray, letters);
        return letters.length;
    }

    static void learnAll(LetterNames x, int child, int... lessons) {
        for (int lesson : lessons) {
            x.learn(child, lesson);
            if (x.status() != 0) {
                throw new IllegalStateException("the test's own lesson " + lesson + " can't be learnt");
            }
        }
    }

    /** All that can be read of an object without a call that changes it. */
    static String all(LetterNames x) {
        StringBuilder told = new StringBuilder();
        told.append(x.top()).append('/').append(x.bottom()).append(" fault ").append(x.fault(0)).append('@').append(x.fault(1));
        for (int what = 0; what < 4; what++) {
            told.append(" many ").append(x.many(what));
        }
        for (int l = 0; l < x.many(1); l++) {
            for (int what = 0; what < 5; what++) {
                told.append(" l").append(x.lesson(l, what));
            }
        }
        for (int c = 0; c < x.many(2); c++) {
            for (int what = 0; what < 5; what++) {
                told.append(" c").append(x.child(c, what));
            }
            for (int p = 0; p < x.child(c, 3); p++) {
                told.append(" n").append(x.letter(c, p, 1));
            }
            told.append(" w").append(x.waited(c));
            for (int k = 0; k < 12; k++) {
                told.append(" b").append(x.began(c, k));
            }
        }
        for (int k = 0; k < 12; k++) {
            told.append(" f").append(x.firstAt(k));
        }
        for (int what = 0; what < 4; what++) {
            told.append(" lived ").append(x.lived(what));
        }
        for (int t = 0; t < 4; t++) {
            x.read(t, 0);
            told.append(" tray").append(x.status() == 3 ? "-" : "");
            for (int p = 0; p < 60; p++) {
                long v = x.read(t, p);
                if (x.status() == 0) {
                    told.append(' ').append(v);
                }
            }
        }
        return told.toString();
    }
}
