import java.util.Map;
import java.util.TreeMap;

/** All promises at once: the class and the model are asked the same, and must answer the same. */
final class ModelTest {
    private static final int RUNS = 2500;
    /** One run in so many is of a full SCHOOL. */
    private static final int FULL = 6;
    private static final int MOST_ORDERS = 3000;
    private static final int TURNS = 120;
    private static final Map<String, Integer> seen = new TreeMap<>();
    private static long asked;

    private final int seed;
    private final boolean full;
    private final Calls calls;
    private final LetterNames x = new LetterNames();
    private final Model y = new Model();
    private String text = "";

    private ModelTest(int seed) {
        this.seed = seed;
        full = seed % FULL == 1;
        calls = new Calls(seed, full);
    }

    public static void main(String[] args) throws Exception {
        int runs = args.length > 1 ? Integer.parseInt(args[1]) : RUNS;
        for (int seed = 0; seed < runs; seed++) {
            new ModelTest(seed).run();
        }
        if (args.length > 1) {
            System.out.println(seen);
        }
        System.out.println("ModelTest: " + asked + " asked, 0 not as due");
    }

    private void run() throws Exception {
        read("school", full ? fullSchool() : calls.schoolText(seed % 50 == 0 ? 8 : 6));
        read("age", calls.ageText(y.world().lessons.size()));
        for (int turn = 0; turn < TURNS; turn++) {
            int what = calls.random.nextInt(100);
            if (what < 2) {
                String told = full ? fullSchool() : calls.schoolText(6);
                read("school", calls.random.nextInt(3) > 0 ? calls.spoilt(told) : told);
            } else if (what < 6) {
                String told = calls.ageText(y.world().lessons.size());
                read("age", calls.random.nextInt(3) == 0 ? calls.spoilt(told) : told);
            } else if (what < 12) {
                int tray = calls.random.nextInt(4);
                fill(tray, calls.random.nextBoolean());
                tellOfTray(tray);
            } else if (what < 14) {
                for (int tray = 0; tray < 4; tray++) {
                    fill(tray, false);
                }
                ask("plans");
                tellOfIt();
            } else if (what < 40) {
                learnSome();
            } else if (what < 42) {
                tellOfNames();
            } else {
                calls.pick();
                same();
                tellOfIt();
            }
        }
    }

    /** The model tries all ORDERS out, so there may not be too many of them. */
    private String fullSchool() {
        for (int tries = 0; tries < 1000; tries++) {
            String told = calls.fullSchoolText();
            LetterNames z = new LetterNames();
            long most = told.length() <= 900 ? 0L : Long.MAX_VALUE;
            if (most == 0L && Check.school(z, told) > 0) {
                for (int n = 0; n <= 12; n++) {
                    most = Math.max(most, z.orders(n));
                }
            }
            if (most > 0L && most <= MOST_ORDERS) {
                return told;
            }
        }
        return calls.schoolText(6);
    }

    /** Feeds a text behind an empty tape and has it read. */
    private void read(String call, String told) throws Exception {
        text = told;
        if (y.tapeLength() > 0) {
            ask("age", 0);
        }
        for (int at = 0; at < text.length(); at += 20) {
            int[] five = new int[5];
            for (int i = 0; i < 20; i++) {
                five[i / 4] = five[i / 4] << 8 | (at + i < text.length() ? text.charAt(at + i) & 255 : ' ');
            }
            ask("feed", five[0], five[1], five[2], five[3], five[4]);
        }
        ask(call, text.length());
        text = "";
    }

    /** A tray with a name, or with lessons that can be learnt one behind another, mostly. */
    private void fill(int tray, boolean letters) throws Exception {
        int lessons = y.world().lessons.size();
        int children = y.world().pupils.size();
        int known = tray < children && !letters ? (int) y.child(tray, 4) : 0;
        int many = calls.random.nextInt(full || calls.random.nextInt(8) == 0 ? 14 : 6);
        ask("tray", tray, calls.random.nextInt(4), many);
        for (int p = 0; p < many && lessons > 0; p++) {
            int lesson = calls.random.nextInt(lessons);
            for (int tries = 0; tries < 20 && !able(known, lesson); tries++) {
                lesson = calls.random.nextInt(lessons);
            }
            if (!able(known, lesson) && !letters && calls.random.nextInt(4) > 0) {
                ask("tray", tray, 0, 0);
                return;
            }
            known |= 1 << lesson;
            ask("write", tray, p, letters ? y.lesson(lesson, 0) : (long) lesson);
        }
    }

    private boolean able(int known, int lesson) {
        return (known >> lesson & 1) == 0 && (y.lesson(lesson, 4) & ~known) == 0;
    }

    private void learnSome() throws Exception {
        int child = calls.random.nextInt(4);
        int lessons = y.world().lessons.size();
        if (child < y.world().pupils.size() && lessons > 0) {
            long ready = y.ready(child, 0);
            int lesson = calls.random.nextInt(lessons);
            for (int tries = 0; tries < 20 && (ready >> lesson & 1) == 0; tries++) {
                lesson = calls.random.nextInt(lessons);
            }
            ask("learn", child, lesson);
        }
    }

    /** What is in a TRAY, taken for a life and for a told name. */
    private void tellOfTray(int tray) throws Exception {
        int many = y.trayLength(tray);
        for (String call : new String[] {"life", "soonest", "cheapest", "ways", "goes", "first"}) {
            ask(call, tray, many);
        }
        tellOfIt();
    }

    private void tellOfNames() throws Exception {
        for (int c = 0; c < 4; c++) {
            for (String call : new String[] {"said", "stumbles", "drop", "firm", "weak", "vowels", "lives", "choice"}) {
                ask(call, c);
            }
            for (int other = 0; other < 4; other++) {
                ask("rhyme", c, other);
                ask("apart", c, other);
                ask("behind", c, other);
            }
            for (int l = 0; l < y.world().lessons.size(); l++) {
                ask("opens", c, l);
                ask("takes", c, l);
            }
        }
    }

    private void tellOfIt() throws Exception {
        if (calls.name.equals("first")) {
            for (int k = 0; k < (full ? 13 : 6); k++) {
                ask("firstAt", k);
            }
        } else if (calls.name.equals("plans")) {
            for (int c = 0; c < 4; c++) {
                ask("waited", c);
                for (int k = 0; k < (full ? 13 : 4); k++) {
                    ask("began", c, k);
                }
            }
        } else if (calls.name.equals("live")) {
            for (int what = 0; what < 4; what++) {
                ask("lived", what);
            }
            tellOfChildren();
        } else if (calls.name.equals("back")) {
            tellOfChildren();
        }
    }

    private void tellOfChildren() throws Exception {
        for (int c = 0; c < 4; c++) {
            for (int what = 0; what < 5; what++) {
                ask("child", c, what);
            }
            for (int p = 0; p < (full ? 13 : 5); p++) {
                ask("letter", c, p, 1);
            }
        }
    }

    private void ask(String call, Object... with) throws Exception {
        calls.set(call, with);
        same();
    }

    private void same() throws Exception {
        long got = calls.answerOf(x);
        long want = calls.answerOf(y);
        asked++;
        boolean hasStatus = !calls.name.equals("feed");
        seen.merge(calls.name + (hasStatus ? ":" + y.status() : ""), 1, Integer::sum);
        boolean same = got == want && (!hasStatus || x.status() == y.status()) && x.top() == y.top() && x.bottom() == y.bottom()
            && x.fault(0) == y.fault(0) && x.fault(1) == y.fault(1);
        if (!same) {
            System.out.println("ModelTest: seed " + seed + ": " + calls.told() + " answered " + got + ", due is " + want + "; status " + x.status()
                + ", due is " + y.status() + "; fraction " + x.top() + "/" + x.bottom() + ", due is " + y.top() + "/" + y.bottom()
                + "; fault " + x.fault(0) + "@" + x.fault(1) + ", due is " + y.fault(0) + "@" + y.fault(1) + "; text: " + text);
            System.exit(1);
        }
    }
}
