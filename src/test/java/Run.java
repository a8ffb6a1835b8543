import java.lang.reflect.Method;
import java.util.ArrayList;
import java.util.HashMap;
import java.util.List;
import java.util.Map;
import java.util.TreeSet;

/**
 * One sentence of the document on trial: its promise, a new object, and the calls made on it. The calls are kept, so that
 * the object can be made again: once with a refused call and once without it, to see that nothing else has changed.
 */
final class Run {
    private static final Map<String, Method> FACE = new HashMap<>();
    private static final TreeSet<Integer> NAMED = new TreeSet<>();
    private static final int MOST_CALLS = 200;
    static final List<String> RESERVED = List.of(("master lesson gives takes costs by needs child gift purse sounds learn lose fate rest pay"
        + " when long says knows loop end stop").split(" "));

    static {
        for (Method m : LetterNames.class.getDeclaredMethods()) {
            if (java.lang.reflect.Modifier.isPublic(m.getModifiers())) {
                FACE.put(m.getName(), m);
            }
        }
    }

    /** A call as it is written: "tray(0, 3, 60)"; MIN and MAX are the ends of the number that stands there. */
    private static final class Call {
        final String text;
        final Method method;
        final Object[] arguments;

        Call(String text) {
            this.text = text;
            int open = text.indexOf('(');
            method = FACE.get(text.substring(0, open));
            String inside = text.substring(open + 1, text.length() - 1).trim();
            String[] parts = inside.isEmpty() ? new String[0] : inside.split(", *");
            Class<?>[] types = method.getParameterTypes();
            if (parts.length != types.length) {
                throw new IllegalStateException("the test's own call is wrong: " + text);
            }
            arguments = new Object[parts.length];
            for (int i = 0; i < parts.length; i++) {
                arguments[i] = types[i] == long.class ? (Object) longOf(parts[i]) : (Object) intOf(parts[i]);
            }
        }

        private static Long longOf(String part) {
            return part.equals("MIN") ? Long.MIN_VALUE : part.equals("MAX") ? Long.MAX_VALUE : Long.parseLong(part);
        }

        private static Integer intOf(String part) {
            return part.equals("MIN") ? Integer.MIN_VALUE : part.equals("MAX") ? Integer.MAX_VALUE : Integer.parseInt(part);
        }

        long answerOf(LetterNames x) {
            try {
                Object answer = method.invoke(x, arguments);
                return answer instanceof Boolean ? ((Boolean) answer ? 1L : 0L) : ((Number) answer).longValue();
            } catch (ReflectiveOperationException e) {
                throw new IllegalStateException(text, e);
            }
        }

        long refusal() {
            return method.getReturnType() == boolean.class ? 0L : -1L;
        }
    }

    private final Check check;
    private final String about;
    private final List<Call> calls = new ArrayList<>();
    private final TreeSet<String> words = new TreeSet<>();
    private final LetterNames x = new LetterNames();
    private String[] untouched;

    private Run(Check check, int promise, String sentence) {
        this.check = check;
        about = "promise " + promise + ", " + sentence + ": ";
        NAMED.add(promise);
    }

    static Run of(Check check, int promise, String sentence) {
        return new Run(check, promise, sentence);
    }

    static Run of(Check check, int promise, String sentence, String school) {
        return new Run(check, promise, sentence).school(school);
    }

    /**
     * An object in which all is told that can be told. Two MASTERS, five LESSONS, three CHILDREN of the NAMES "na", "n" and "";
     * TRAYS of 2, 2 and 3 numbers (0, 1 and 3) and a MISSING one (2); an AGE of three STEPS, two MARKS; a first way of three
     * LESSONS, plans, a life, a FRACTION (1 by 3), a FAULT (1 at 2), and 20 bytes on the tape.
     */
    static Run rich(Check check, int promise, String sentence) {
        return dry(check, promise, sentence).feed("child new;sounds 4;");
    }

    /** The same with an empty tape. */
    static Run dry(Check check, int promise, String sentence) {
        Run r = of(check, promise, sentence, "master ann;master bob;lesson one gives a takes 5 costs 10 by ann;lesson two gives n takes 3 by ann;"
            + "lesson tri gives n takes 4 costs 2 by bob needs two;lesson qua gives a takes 2 needs one;"
            + "lesson fiv gives s takes 6 costs 1 needs two qua;child eva gift 2 purse 20;child ida purse 5;child oda;sounds 1;");
        r.go("learn(0, 1)", "mark()").age("learn ida two;rest eva 3;pay ida 1;");
        r.go("learn(0, 0)", "rest(1, 7)", "mark()", "pay(2, 6)").lay(0, 3, 2).lay(1, 1, 0).go("plans()");
        r.go("tray(3, 1, 3)", "write(3, 0, 14)", "write(3, 1, 1)", "write(3, 2, 14)", "first(3, 3)", "live(5)", "sayable(3)");
        r.feed("  ?");
        r.ask("school(3)");
        return r;
    }

    // ---- what is asked

    /** Calls on the way, which must all have STATUS 0. */
    Run go(String... texts) {
        for (String text : texts) {
            ask(text);
            check.due(about + text + " on the way, its status", x.status(), 0);
        }
        return this;
    }

    /** A call that is taken: it gives this, and STATUS 0. */
    Run is(String text, long due) {
        check.due(about + text, ask(text), due);
        check.due(about + text + " status", x.status(), 0);
        return this;
    }

    /** A call without a STATUS: it gives this, and the STATUS stays. */
    Run tells(String text, long due) {
        int status = x.status();
        check.due(about + text, ask(text), due);
        check.due(about + text + " leaves the status", x.status(), status);
        return this;
    }

    /** A call that is refused: NONE or false, this STATUS, and nothing else is changed. */
    Run no(String text, int status) {
        refuse(text, status);
        String[] ahead = state();
        String[] behind = stateBehind(new Call(text));
        for (int i = 0; i < ahead.length; i++) {
            unchanged(text, ahead[i], behind[i]);
        }
        return this;
    }

    Run no(int status, String... texts) {
        for (String text : texts) {
            no(text, status);
        }
        return this;
    }

    /** A call that is taken, but changes nothing. */
    Run same(String text, long due) {
        String[] ahead = state().clone();
        is(text, due);
        String[] behind = state();
        for (int i = 0; i < ahead.length; i++) {
            unchanged(text, ahead[i], behind[i]);
        }
        return this;
    }

    /** A call that tells this FRACTION. */
    Run fraction(String text, long top, long bottom) {
        return is(text, 1).tells("top()", top).tells("bottom()", bottom);
    }

    /** The STATUS as it stands. */
    Run status(int due) {
        check.due(about + "status()", x.status(), due);
        return this;
    }

    /** Bytes of a text come to the tape, blanks behind them up to a whole twenty. */
    Run feed(String text) {
        for (int at = 0; at < text.length(); at += 20) {
            StringBuilder call = new StringBuilder("feed(");
            for (int i = at; i < at + 20; i += 4) {
                int four = 0;
                for (int j = i; j < i + 4; j++) {
                    four = four << 8 | (j < text.length() ? text.charAt(j) & 255 : ' ');
                }
                call.append(i == at ? "" : ", ").append(four);
            }
            ask(call.append(')').toString());
        }
        for (String word : text.split("[^a-z]+")) {
            if (!word.isEmpty() && word.length() <= 8 && !RESERVED.contains(word)) {
                words.add(word);
            }
        }
        return this;
    }

    /** A TRAY of 64 bits with these numbers. */
    Run lay(int tray, long... numbers) {
        go("tray(" + tray + ", 3, " + numbers.length + ")");
        for (int p = 0; p < numbers.length; p++) {
            go("write(" + tray + ", " + p + ", " + numbers[p] + ")");
        }
        return this;
    }

    Run school(String text) {
        feed(text);
        return go("school(" + text.length() + ")").tells("fault(0)", 0).tells("fault(1)", -1);
    }

    Run age(String text) {
        feed(text);
        return go("age(" + text.length() + ")").tells("fault(0)", 0).tells("fault(1)", -1);
    }

    /** A text, for school or age, that has a FAULT: it is told, the tape is empty, and nothing else is changed. */
    Run faulty(String what, String text, int kind, int place) {
        return faulty(what, text, text.length(), kind, place);
    }

    /** The first n bytes of a text have it. */
    Run faulty(String what, String text, int n, int kind, int place) {
        String told = what + "(" + n + ") of '" + text.replace("\n", "\\n") + "'";
        String[] ahead = state().clone();
        feed(text);
        check.due(about + told, ask(what + "(" + n + ")"), -1);
        check.due(about + told + " has status", x.status(), 10);
        check.due(about + told + " has fault", x.fault(0), kind);
        check.due(about + told + " has it at", x.fault(1), place);
        String[] behind = state();
        for (int i = 0; i < ahead.length; i++) {
            if (i != FAULT && i != TAPE) {
                unchanged(told, ahead[i], behind[i]);
            }
        }
        check.due(about + told + " empties the tape", behind[TAPE].equals(EMPTY_TAPE), true);
        return this;
    }

    /** What an object answers to a call as it is written, a boolean as 1 or 0. */
    static long answer(LetterNames x, String text) {
        return new Call(text).answerOf(x);
    }

    // ---- what the calls share

    private long ask(String text) {
        Call call = new Call(text);
        calls.add(call);
        untouched = null;
        return call.answerOf(x);
    }

    private void refuse(String text, int status) {
        Call call = new Call(text);
        check.due(about + text, call.answerOf(x), call.refusal());
        check.due(about + text + " status", x.status(), status);
    }

    private void unchanged(String call, String ahead, String behind) {
        check.due(about + call + " leaves the rest" + (ahead.equals(behind) ? "" : ", which was\n  " + ahead + "\nand is\n  " + behind),
            ahead.equals(behind), true);
    }

    private LetterNames replay(Call last) {
        if (calls.size() > MOST_CALLS) {
            throw new IllegalStateException("the test's own run is too long: " + about);
        }
        LetterNames again = new LetterNames();
        for (Call call : calls) {
            call.answerOf(again);
        }
        if (last != null) {
            last.answerOf(again);
        }
        return again;
    }

    // ---- all that can be told of an object, on a new one for each part, since some of it must be tried out

    private static final int FAULT = 0;
    private static final int TAPE = 1;
    private static final String EMPTY_TAPE = "an empty tape";

    private String[] state() {
        if (untouched == null) {
            untouched = stateBehind(null);
        }
        return untouched;
    }

    private String[] stateBehind(Call last) {
        LetterNames a = replay(last);
        String fault = a.fault(0) + " at " + a.fault(1);
        return new String[] {fault, tape(replay(last)), people(a), told(a), trays(replay(last)), lives(replay(last)), marks(replay(last)),
            names(replay(last))};
    }

    private static String tape(LetterNames x) {
        int has = 0;
        for (int n = 900; n > 0 && has == 0; n -= 20) {
            x.school(n);
            has = x.status() == 5 ? 0 : n;
        }
        return has == 0 ? EMPTY_TAPE : "tape of " + has + " read as " + x.status() + ", " + x.fault(0) + " at " + x.fault(1) + ": " + people(x);
    }

    private static String people(LetterNames x) {
        StringBuilder told = new StringBuilder();
        for (int what = 0; what < 4; what++) {
            told.append(" many ").append(x.many(what));
        }
        for (int l = 0; l < x.many(1); l++) {
            told.append(" lesson");
            for (int what = 0; what < 5; what++) {
                told.append(' ').append(x.lesson(l, what));
            }
        }
        for (int c = 0; c < x.many(2); c++) {
            told.append(" child");
            for (int what = 0; what < 5; what++) {
                told.append(' ').append(x.child(c, what));
            }
            for (int p = 0; p < x.child(c, 3); p++) {
                told.append(" by ").append(x.letter(c, p, 1));
            }
        }
        for (int m = 0; m < x.many(0); m++) {
            told.append(" teaches ").append(x.teaches(m));
        }
        return told.toString();
    }

    private static String told(LetterNames x) {
        StringBuilder told = new StringBuilder();
        told.append("fraction ").append(x.top()).append(" by ").append(x.bottom()).append(" first");
        for (int k = 0; k < 13; k++) {
            told.append(' ').append(x.firstAt(k));
        }
        for (int c = 0; c < x.many(2); c++) {
            told.append(" waited ").append(x.waited(c)).append(" began");
            for (int k = 0; k < 13; k++) {
                told.append(' ').append(x.began(c, k));
            }
        }
        for (int what = 0; what < 4; what++) {
            told.append(" lived ").append(x.lived(what));
        }
        return told.toString();
    }

    private static String trays(LetterNames x) {
        StringBuilder told = new StringBuilder();
        for (int t = 0; t < 4; t++) {
            told.append(" tray");
            for (int p = 0; p < 61; p++) {
                long v = x.read(t, p);
                if (x.status() != 0) {
                    told.append(" status ").append(x.status());
                    break;
                }
                told.append(' ').append(v);
            }
        }
        for (int t = 0; t < 4; t++) {
            for (int to = 0; to < 4; to++) {
                x.pour(t, 0, to, 0, 0);
                told.append(" pour ").append(x.status());
            }
            x.write(t, 0, 0x0807060504030201L);
            told.append(" cut ").append(x.read(t, 0));
        }
        return told.toString();
    }

    private static String lives(LetterNames x) {
        StringBuilder told = new StringBuilder();
        for (int seed = 0; seed < 9; seed += 4) {
            told.append(" live ").append(x.live(seed));
            for (int what = 0; what < 4; what++) {
                told.append(' ').append(x.lived(what));
            }
            told.append(people(x).replaceAll(" lesson[^a-z]*", ""));
        }
        return told.toString();
    }

    private static String marks(LetterNames x) {
        StringBuilder told = new StringBuilder();
        for (int m = 0; m < 4; m++) {
            told.append(" back ").append(x.back());
            if (x.status() == 0) {
                told.append(people(x)).append(" live ").append(x.live(3));
            }
        }
        return told.toString();
    }

    /** Which of the words that were ever fed are NAMES of CHILDREN, of LESSONS. */
    private String names(LetterNames x) {
        StringBuilder told = new StringBuilder();
        String child = null;
        x.age(0);
        for (String word : words) {
            if (x.many(2) > 0 && Check.age(x, "fate " + word + ";") == 1) {
                told.append(" child ").append(word);
                child = word;
            }
        }
        for (String word : words) {
            if (child != null && Check.age(x, "learn " + child + " " + word + ";") == 1) {
                told.append(" lesson ").append(word);
            }
        }
        return told.toString();
    }

    /** Ends a test: each of these promises must have had a sentence. */
    static void finish(Check check, int... promises) {
        for (int promise : promises) {
            check.due("promise " + promise + " has a test of its own", NAMED.contains(promise), true);
        }
        check.finish();
    }
}
