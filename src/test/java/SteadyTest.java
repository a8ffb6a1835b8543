/** ==== 5: no call throws, a refused one changes nothing but STATUS; and the room a run takes stays small. */
final class SteadyTest {
    private static final Check check = new Check("SteadyTest");
    private static final int[] WILD = {Integer.MIN_VALUE, -1, 0, 1, 2, 3, 4, 5, 11, 12, 13, 59, 60, 61, 300, 900, 9999, 10000, Integer.MAX_VALUE};

    public static void main(String[] args) throws Exception {
        for (int seed = 0; seed < 150; seed++) {
            steady(seed);
        }
        fullest();
        room();
        check.finish();
    }

    private static void steady(int seed) throws Exception {
        Calls calls = new Calls(seed);
        LetterNames x = new LetterNames();
        Check.school(x, calls.schoolText(6));
        Check.age(x, calls.ageText(6));
        for (int t = 0; t < 3; t++) {
            x.tray(t, 3, calls.random.nextInt(5));
        }
        for (int i = 0; i < 150; i++) {
            String ahead = Check.all(x);
            if (i == 50 || i == 100) {
                text(calls, x);
            } else {
                calls.pick();
                if (calls.random.nextInt(3) == 0) {
                    goWild(calls);
                }
                calls.answerOf(x);
            }
            int status = x.status();
            boolean told = calls.name.equals("status") || calls.name.equals("feed") || calls.name.equals("top") || calls.name.equals("bottom")
                || calls.name.equals("fault");
            if (status != 0 && !told) {
                String behind = Check.all(x);
                boolean fault = status == 10;
                check.due("seed " + seed + ": " + calls.told() + " with status " + status + " changes nothing",
                    fault ? leaveFault(ahead).equals(leaveFault(behind)) : ahead.equals(behind), true);
            }
        }
    }

    private static void text(Calls calls, LetterNames x) {
        calls.set("age", 1);
        Check.age(x, calls.spoilt(calls.ageText(6)));
    }

    private static String leaveFault(String all) {
        return all.replaceFirst(" fault \\S+", "");
    }

    private static void goWild(Calls calls) {
        for (int i = 0; i < calls.arguments.length; i++) {
            if (calls.arguments[i] instanceof Integer) {
                calls.arguments[i] = WILD[calls.random.nextInt(WILD.length)];
            }
        }
    }

    /** As many MASTERS, LESSONS, CHILDREN, STEPS as there may be, and NAMES as long as they can be. */
    private static void fullest() {
        StringBuilder text = new StringBuilder("master ma;master mb;master mc;master md;");
        for (int l = 0; l < 12; l++) {
            text.append("lesson l").append((char) ('a' + l)).append(" gives ").append(l % 2 == 0 ? 'a' : 'b').append(" takes 30 costs 9 by m")
                .append((char) ('a' + l % 4)).append(l == 0 ? "" : " needs l" + (char) ('a' + l - 1)).append(';');
        }
        LetterNames x = Check.of(text + "child ca purse 999;child cb purse 999;child cc purse 999;child cd purse 999;sounds 1;");
        check.taken("steps", x, Check.age(x, "loop 99;fate ca;fate cb;fate cc;fate cd;end;" + "fate cd;".repeat(25)), 30);
        for (int c = 0; c < 4; c++) {
            Check.lay(x, c, 0, 1, 2, 3, 4, 5, 6, 7, 8, 9, 10, 11);
        }
        check.taken("plans()", x, x.plans(), 360 + 3 * 30);
        check.refused("life", x, x.life(3, 12), 8);
        for (int c = 0; c < 4; c++) {
            Check.learnAll(x, c, 0, 1, 2, 3, 4, 5, 6, 7, 8, 9, 10, 11);
            check.taken("letter", x, x.letter(c, 11, 1), 11);
            check.refused("letter", x, x.letter(c, 12, 1), 8);
            check.refused("choice", x, x.choice(c), 8);
            check.taken("ready", x, x.ready(c, 0), 0);
            check.taken("said", x, x.said(c), 1);
            check.taken("weak", x, x.weak(c), 1);
            check.taken("drop", x, x.drop(c), 0);
            check.taken("lives", x, x.lives(c), 1);
            check.taken("copyName", x, x.copyName(c, c), 12);
        }
        check.taken("rhyme", x, x.rhyme(0, 3), 12);
        check.refused("apart", x, x.apart(0, 3), 8);
        check.refused("behind", x, x.behind(0, 3), 8);
        check.taken("first", x, x.first(3, 12), 12);
        check.taken("firstAt", x, x.firstAt(11), 11);
        check.taken("soonest", x, x.soonest(3, 12), 360);
        check.taken("goes", x, x.goes(3, 12), 12);
        check.taken("reach", x, x.reach(11), 12);
        check.taken("root", x, x.root(), 0);
        check.fraction("sayable", x, x.sayable(12), 1, 1);
        check.taken("opens", x, x.lose(0, 10), 10);
        check.taken("opens", x, x.opens(0, 10), 0);
        for (int m = 1; m <= 3; m++) {
            check.taken("mark", x, x.mark(), m);
            check.taken("live", x, x.live(m), 300);
            check.agreed("odds", x, x.odds(3, 9980, 20));
        }
        for (int m = 2; m >= 0; m--) {
            check.taken("back", x, x.back(), m);
        }
        check.taken("as it was", x, x.child(0, 4), 4095 - 1024);
        check.taken("lose", x, x.lose(1, 0), 0);
        check.taken("lose", x, x.lose(1, 10), 11);
        check.taken("letter", x, x.letter(1, 9, 1), 10);
    }

    /** The dearest calls, as often as an object may be called: what they make must not add up. */
    private static void room() {
        com.sun.management.ThreadMXBean threads = (com.sun.management.ThreadMXBean) java.lang.management.ManagementFactory.getThreadMXBean();
        long id = Thread.currentThread().getId();
        StringBuilder text = new StringBuilder();
        for (int l = 0; l < 12; l++) {
            text.append("lesson ").append((char) ('a' + l)).append(" gives ").append(l % 2 == 0 ? 'a' : 'b').append(" takes 30;");
        }
        String school = text.append("child kim;sounds 9;").toString();
        LetterNames warm = Check.of(school);
        dearest(warm, 2);
        long ahead = threads.getThreadAllocatedBytes(id);
        LetterNames x = new LetterNames();
        long made = threads.getThreadAllocatedBytes(id) - ahead;
        System.out.println("SteadyTest: a new object takes " + made + " bytes");
        check.due("a new object is small", made < 40000, true);
        Check.school(x, school);
        ahead = threads.getThreadAllocatedBytes(id);
        dearest(x, 50);
        long more = threads.getThreadAllocatedBytes(id) - ahead;
        System.out.println("SteadyTest: its dearest calls take " + more + " bytes");
        check.due("calls use their rows again", more < 1500000, true);
    }

    private static void dearest(LetterNames x, int times) {
        x.tray(0, 0, 12);
        for (int i = 0; i < times; i++) {
            x.age(0);
            x.tray(0, 3, 60);
            x.write(0, 0, 1);
            x.sayable(12);
            x.orders(12);
            x.first(0, 1);
            x.goes(0, 1);
            x.odds(0, 0, 20);
            x.mark();
            x.back();
        }
    }
}
