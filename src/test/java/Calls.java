import java.lang.reflect.Method;
import java.util.Random;

/** Random calls of the whole face: mostly ones that can be, some wild. The seed alone tells which. */
final class Calls {
    /** Each call with what its arguments are: one sign each, see argument(). */
    private static final String[] FACE = {
        "write tpv", "read tp", "pour tptpp", "fault w", "many w", "lesson lw", "child cw", "letter cpw", "teaches c",
        "copyName ct", "learn cl", "lose cp", "rest cd", "pay cd", "ready cw", "takes cl", "opens cl", "choice c", "said c",
        "stumbles c", "drop c", "firm c", "weak c", "vowels c", "rhyme cc", "apart cc", "behind cc", "life tm", "soonest tm",
        "cheapest tm", "ways tm", "first tm", "firstAt p", "goes tm", "lives c", "orders m", "reach l", "sayable m", "root ",
        "plans ", "plans ", "waited c", "began cp", "live r", "lived w", "odds cro", "mark ", "back ",
    };
    /** Calls that would take away what the others are to tell of, so they come seldom. */
    private static final String[] SELDOM = {"school m", "age m", "feed iiiii", "tray tsn", "status ", "top ", "bottom "};
    private static final int[] EDGES = {-1, -2, Integer.MIN_VALUE, Integer.MAX_VALUE, 4, 5, 12, 13, 60, 61, 99, 100, 900, 901, 9999, 10000};

    final Random random;
    /** Whether calls, texts go as far as there can be LESSONS, CHILDREN, LETTERS, or stay among few of them. */
    private final boolean wide;
    String name;
    Object[] arguments;

    Calls(long seed) {
        this(seed, false);
    }

    Calls(long seed, boolean wide) {
        random = new Random(seed);
        this.wide = wide;
    }

    void pick() {
        String[] from = random.nextInt(100) == 0 ? SELDOM : FACE;
        String[] call = from[random.nextInt(from.length)].split(" ", 2);
        name = call[0];
        arguments = new Object[call[1].length()];
        for (int i = 0; i < arguments.length; i++) {
            char kind = call[1].charAt(i);
            arguments[i] = kind == 'v' ? (Object) number() : (Object) argument(kind);
        }
    }

    void set(String call, Object... with) {
        name = call;
        arguments = with;
    }

    private Long number() {
        return random.nextInt(8) == 0 ? random.nextLong() : (Long) (long) random.nextInt(27);
    }

    private Integer argument(char kind) {
        if (kind == 'i') {
            return random.nextInt();
        }
        if (random.nextInt(25) == 0) {
            return EDGES[random.nextInt(EDGES.length)];
        }
        switch (kind) {
            case 't': return random.nextInt(4);
            case 's': return random.nextInt(4);
            case 'n': return random.nextInt(14);
            case 'p': return random.nextInt(wide ? 13 : 6);
            case 'w': return random.nextInt(5);
            case 'c': return random.nextInt(wide ? 4 : 3);
            case 'l': return random.nextInt(wide ? 12 : 8);
            case 'd': return 1 + random.nextInt(99);
            case 'm': return random.nextInt(wide ? 13 : 7);
            case 'r': return random.nextInt(9980);
            default: return 1 + random.nextInt(20);
        }
    }

    /** What an object answers to the call, a boolean as 1 or, refused, as NONE. */
    long answerOf(Object x) throws Exception {
        for (Method m : x.getClass().getDeclaredMethods()) {
            if (m.getName().equals(name) && m.getParameterCount() == arguments.length && !java.lang.reflect.Modifier.isPrivate(m.getModifiers())) {
                m.setAccessible(true);
                Object answer = m.invoke(x, arguments);
                return answer instanceof Boolean ? ((Boolean) answer ? 1L : -1L) : ((Number) answer).longValue();
            }
        }
        throw new IllegalStateException("no such call: " + name);
    }

    String told() {
        StringBuilder text = new StringBuilder(name).append('(');
        for (int i = 0; i < arguments.length; i++) {
            text.append(i == 0 ? "" : ", ").append(arguments[i]);
        }
        return text.append(')').toString();
    }

    // ---- texts

    private String lessonName(int l) {
        return "l" + (char) ('a' + l);
    }

    private String childName(int c) {
        return "c" + (char) ('a' + c);
    }

    private String letter() {
        return "" + "aeioubcdnaabb".charAt(random.nextInt(13));
    }

    String schoolText(int mostLessons) {
        StringBuilder text = new StringBuilder();
        int masters = random.nextInt(4);
        for (int m = 0; m < masters; m++) {
            text.append("master m").append((char) ('a' + m)).append("; ");
        }
        int lessons = random.nextInt(mostLessons + 1);
        for (int l = 0; l < lessons; l++) {
            text.append("lesson ").append(lessonName(l)).append(" gives ").append(letter()).append(" takes ").append(1 + random.nextInt(12));
            if (random.nextInt(2) == 0) {
                text.append(" costs ").append(random.nextInt(12));
            }
            if (masters > 0 && random.nextInt(3) > 0) {
                text.append(" by m").append((char) ('a' + random.nextInt(masters)));
            }
            if (l > 0 && random.nextInt(3) == 0) {
                text.append(" needs");
                int step = 1 + random.nextInt(3);
                for (int n = random.nextInt(l); n < l; n += step) {
                    text.append(' ').append(lessonName(n));
                }
            }
            text.append(";\n");
        }
        int children = 1 + random.nextInt(4);
        for (int c = 0; c < children; c++) {
            text.append("child ").append(childName(c));
            if (random.nextInt(2) == 0) {
                text.append(" gift ").append(random.nextInt(10));
            }
            if (random.nextInt(4) > 0) {
                text.append(" purse ").append(random.nextInt(random.nextBoolean() ? 40 : 1000));
            }
            text.append(';');
        }
        if (random.nextInt(3) > 0) {
            text.append("sounds ").append(1 + random.nextInt(random.nextBoolean() ? 3 : 9)).append(';');
        }
        return text.toString();
    }

    /** As many MASTERS, CHILDREN and nearly as many LESSONS as there may be, which NEED so much that they have few ORDERS. */
    String fullSchoolText() {
        StringBuilder text = new StringBuilder("master ma;master mb;master mc;master md;");
        int lessons = 10 + random.nextInt(3);
        int near = 1 + random.nextInt(3);
        for (int l = 0; l < lessons; l++) {
            text.append("lesson ").append(lessonName(l)).append(" gives ").append(letter()).append(" takes ").append(1 + random.nextInt(30));
            if (random.nextInt(2) == 0) {
                text.append(" costs ").append(random.nextInt(100));
            }
            if (random.nextInt(4) > 0) {
                text.append(" by m").append((char) ('a' + random.nextInt(4)));
            }
            if (l > 0 && random.nextInt(8) > 0) {
                text.append(" needs ").append(lessonName(Math.max(0, l - 1 - random.nextInt(near))));
            }
            text.append(';');
        }
        for (int c = 0; c < 4; c++) {
            text.append("child ").append(childName(c)).append(" gift ").append(random.nextInt(10)).append(" purse ").append(random.nextInt(1000)).append(';');
        }
        return text.append("sounds ").append(1 + random.nextInt(random.nextBoolean() ? 3 : 9)).append(';').toString();
    }

    String ageText(int lessons) {
        StringBuilder text = new StringBuilder();
        int depth = 0;
        int steps = random.nextInt(18);
        for (int s = 0; s < steps; s++) {
            String child = childName(random.nextInt(wide ? 4 : 2));
            String lesson = lessonName(random.nextInt(Math.max(1, lessons)));
            switch (random.nextInt(9)) {
                case 0: text.append("learn ").append(child).append(' ').append(lesson); break;
                case 1: text.append("lose ").append(child).append(' ').append(random.nextInt(wide ? 12 : 4)); break;
                case 2: text.append("rest ").append(child).append(' ').append(1 + random.nextInt(99)); break;
                case 3: text.append("pay ").append(child).append(' ').append(1 + random.nextInt(99)); break;
                case 4:
                    text.append("loop ").append(random.nextBoolean() ? 2 : 1 + random.nextInt(99));
                    depth++;
                    break;
                case 5:
                    text.append("when ").append(random.nextBoolean() ? "says " + child : random.nextBoolean() ? "knows " + child + ' ' + lesson
                        : "long " + child + "<>=".charAt(random.nextInt(3)) + random.nextInt(wide ? 13 : 6));
                    depth++;
                    break;
                case 6: text.append(random.nextInt(4) == 0 ? "stop" : "fate " + child); break;
                default: text.append("fate ").append(child); break;
            }
            text.append(';');
            while (depth > 0 && (depth >= 3 || random.nextInt(3) == 0)) {
                text.append("end;");
                depth--;
            }
        }
        for (; depth > 0; depth--) {
            text.append("end;");
        }
        return text.toString();
    }

    /** A text with some of it left out, doubled, or put in another's place. */
    String spoilt(String text) {
        StringBuilder spoilt = new StringBuilder(text);
        String[] bits = {"end;", ";", " ", "la", "ca", "ma", "loop 2;", "12345", "0", "31", "?", "sounds 2;", "child ca;", "master mz;", "lesson",
            " needs la", "abcdefghi", "when says ca;", "stop;", "<", "\u00ff", "\n", "by", "lesson lz gives ab"};
        int times = 1 + random.nextInt(2);
        for (int i = 0; i < times; i++) {
            int at = random.nextInt(spoilt.length() + 1);
            int to = Math.min(spoilt.length(), at + random.nextInt(3));
            spoilt.replace(at, to, random.nextInt(3) == 0 ? "" : bits[random.nextInt(bits.length)]);
        }
        return spoilt.toString();
    }
}
