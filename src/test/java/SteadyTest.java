/** ==== 5: no call throws, a refused one changes nothing but STATUS; and the room a run takes stays small. */
final class SteadyTest {
    private static final Check check = new Check("SteadyTest");
    private static final int[] WILD = {Integer.MIN_VALUE, -1, 0, 1, 2, 3, 4, 5, 11, 12, 13, 59, 60, 61, 300, 900, 9999, 10000, Integer.MAX_VALUE};

    public static void main(String[] args) throws Exception {
        for (int seed = 0; seed < 150; seed++) {
            steady(seed);
        }
        room();
        check.finish();
    }

    private static void steady(int seed) throws Exception {
        Calls calls = new Calls(seed);
        LetterNames x = new LetterNames();
        Check.school(x, calls.schoolText(6));
        Check.age(x, calls.ageText(6));
        for (int t = 0; t < 3; t++) {
            x.tray(t, 3, calls.random.nextInt(5));
        }
        for (int i = 0; i < 150; i++) {
            String ahead = Check.all(x);
            if (i == 50 || i == 100) {
                text(calls, x);
            } else {
                calls.pick();
                if (calls.random.nextInt(3) == 0) {
                    goWild(calls);
                }
                calls.answerOf(x);
            }
            int status = x.status();
            boolean told = calls.name.equals("status") || calls.name.equals("feed") || calls.name.equals("top") || calls.name.equals("bottom")
                || calls.name.equals("fault");
            if (status != 0 && !told) {
                String behind = Check.all(x);
                boolean fault = status == 10;
                check.due("seed " + seed + ": " + calls.told() + " with status " + status + " changes nothing",
                    fault ? leaveFault(ahead).equals(leaveFault(behind)) : ahead.equals(behind), true);
            }
        }
    }

    private static void text(Calls calls, LetterNames x) {
        calls.set("age", 1);
        Check.age(x, calls.spoilt(calls.ageText(6)));
    }

    private static String leaveFault(String all) {
        return all.replaceFirst(" fault \\S+", "");
    }

    private static void goWild(Calls calls) {
        for (int i = 0; i < calls.arguments.length; i++) {
            if (calls.arguments[i] instanceof Integer) {
                calls.arguments[i] = WILD[calls.random.nextInt(WILD.length)];
            }
        }
    }

    /** The dearest calls, as often as an object may be called: what they make must not add up. */
    private static void room() {
        com.sun.management.ThreadMXBean threads = (com.sun.management.ThreadMXBean) java.lang.management.ManagementFactory.getThreadMXBean();
        long id = Thread.currentThread().getId();
        StringBuilder text = new StringBuilder();
        for (int l = 0; l < 12; l++) {
            text.append("lesson ").append((char) ('a' + l)).append(" gives ").append(l % 2 == 0 ? 'a' : 'b').append(" takes 30;");
        }
        String school = text.append("child kim;sounds 9;").toString();
        LetterNames warm = Check.of(school);
        dearest(warm, 2);
        long ahead = threads.getThreadAllocatedBytes(id);
        LetterNames x = new LetterNames();
        long made = threads.getThreadAllocatedBytes(id) - ahead;
        System.out.println("SteadyTest: a new object takes " + made + " bytes");
        check.due("a new object is small", made < 40000, true);
        Check.school(x, school);
        ahead = threads.getThreadAllocatedBytes(id);
        dearest(x, 50);
        long more = threads.getThreadAllocatedBytes(id) - ahead;
        System.out.println("SteadyTest: its dearest calls take " + more + " bytes");
        check.due("calls use their rows again", more < 1500000, true);
    }

    private static void dearest(LetterNames x, int times) {
        x.tray(0, 0, 12);
        for (int i = 0; i < times; i++) {
            x.age(0);
            x.tray(0, 3, 60);
            x.write(0, 0, 1);
            x.sayable(12);
            x.orders(12);
            x.first(0, 1);
            x.goes(0, 1);
            x.odds(0, 0, 20);
            x.mark();
            x.back();
        }
    }
}
