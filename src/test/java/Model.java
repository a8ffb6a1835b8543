import java.util.ArrayList;
import java.util.Arrays;
import java.util.List;

/**
 * The document once more, written as plainly as can be, by trying out all there is: what ModelTest holds
 * the class against. It shares no line and no way of counting with it.
 */
final class Model {
    private static final List<String> RESERVED = Arrays.asList(("master lesson gives takes costs by needs child gift purse sounds"
        + " learn lose fate rest pay when long says knows loop end stop").split(" "));

    private static final class Fault extends RuntimeException {
        private static final long serialVersionUID = 1L;
        final int kind;
        final int place;

        Fault(int kind, int place) {
            super("fault " + kind + " at " + place);
            this.kind = kind;
            this.place = place;
        }
    }

    static final class Subject {
        String name;
        char letter;
        int days;
        int costs;
        int master = -1;
        List<Integer> needs = new ArrayList<>();
    }

    static final class Pupil {
        String name;
        int gift;
        int purse;
        int clock;
        List<Integer> learnt = new ArrayList<>();

        Pupil copy() {
            Pupil p = new Pupil();
            p.name = name;
            p.gift = gift;
            p.purse = purse;
            p.clock = clock;
            p.learnt = new ArrayList<>(learnt);
            return p;
        }
    }

    static final class World {
        List<String> masters = new ArrayList<>();
        List<Subject> lessons = new ArrayList<>();
        List<Pupil> pupils = new ArrayList<>();
        int sounds = 2;
        boolean soundsTold;
        List<String[]> age;

        World copy() {
            World w = new World();
            w.masters = masters;
            w.lessons = lessons;
            for (Pupil p : pupils) {
                w.pupils.add(p.copy());
            }
            w.sounds = sounds;
            w.age = age;
            return w;
        }

        int pupil(String name) {
            for (int i = 0; i < pupils.size(); i++) {
                if (pupils.get(i).name.equals(name)) {
                    return i;
                }
            }
            return -1;
        }

        int lesson(String name) {
            for (int i = 0; i < lessons.size(); i++) {
                if (lessons.get(i).name.equals(name)) {
                    return i;
                }
            }
            return -1;
        }
    }

    /** Reads one token after another; a token is its text, "" at the end, null where none begins. */
    private static final class Text {
        final String text;
        int at;
        int place;
        String token;

        Text(String text) {
            this.text = text;
            next();
        }

        void next() {
            while (at < text.length() && (text.charAt(at) == 32 || text.charAt(at) == 10)) {
                at++;
            }
            place = at;
            String rest = text.substring(at);
            if (rest.isEmpty()) {
                token = "";
                return;
            }
            java.util.regex.Matcher m = java.util.regex.Pattern.compile("[a-z]+|[0-9]+|[;<>=]").matcher(rest);
            token = m.lookingAt() ? m.group() : null;
            if (token != null && token.matches("[0-9]{5,}")) {
                token = null;
            }
            at += token == null ? 0 : token.length();
        }

        Fault wrong(int kind) {
            return new Fault(kind, place);
        }

        void must(boolean fits) {
            if (!fits) {
                throw wrong(token == null ? 1 : 2);
            }
        }

        boolean is(String wanted) {
            return wanted.equals(token);
        }

        void pass(String wanted) {
            must(is(wanted));
            next();
        }

        boolean perhaps(String wanted) {
            if (!is(wanted)) {
                return false;
            }
            next();
            return true;
        }

        String name() {
            must(token != null && token.matches("[a-z]{1,8}") && !RESERVED.contains(token));
            return token;
        }

        int number(int least, int most) {
            must(token != null && token.matches("[0-9]+"));
            int n = Integer.parseInt(token);
            if (n < least || n > most) {
                throw wrong(4);
            }
            next();
            return n;
        }
    }

    private int status;
    private long top;
    private long bottom = 1;
    private final StringBuilder tape = new StringBuilder();
    private final long[][] trays = new long[4][];
    private final int[] sorts = new int[4];
    private int fault = -1;
    private int faultPlace = -1;
    private World world = new World();
    private final List<World> marks = new ArrayList<>();
    private List<Integer> firstWay = new ArrayList<>();
    private List<List<Integer>> begins;
    private int[] waits;
    private int[] told;

    private long no(int why) {
        status = why;
        return -1;
    }

    private long yes(long value) {
        status = 0;
        return value;
    }

    World world() {
        return world;
    }

    int trayLength(int t) {
        return trays[t] == null ? 0 : trays[t].length;
    }

    int tapeLength() {
        return tape.length();
    }

    int status() {
        return status;
    }

    long top() {
        return top;
    }

    long bottom() {
        return bottom;
    }

    private void tell(long a, long b) {
        long d = java.math.BigInteger.valueOf(a).gcd(java.math.BigInteger.valueOf(b)).longValue();
        top = a / d;
        bottom = b / d;
    }

    // ---- trays

    private boolean noTray(long t) {
        return t < 0 || t > 3;
    }

    long tray(int t, int sort, int many) {
        if (noTray(t) || sort < 0 || sort > 3) {
            return no(1);
        }
        if (many > 60) {
            return no(5);
        }
        if (many < 0) {
            return no(6);
        }
        trays[t] = new long[many];
        sorts[t] = sort;
        return yes(1);
    }

    long write(int t, int place, long v) {
        if (read(t, place) == -1 && status != 0) {
            return -1;
        }
        int gone = 64 - (8 << sorts[t]);
        trays[t][place] = v << gone >> gone;
        return yes(1);
    }

    long read(int t, int place) {
        if (noTray(t)) {
            return no(1);
        }
        if (trays[t] == null) {
            return no(3);
        }
        if (place < 0 || place >= trays[t].length) {
            return no(4);
        }
        return yes(trays[t][place]);
    }

    long pour(int t, int i, int to, int j, int many) {
        if (noTray(t) || noTray(to)) {
            return no(1);
        }
        if (trays[t] == null || trays[to] == null) {
            return no(3);
        }
        if (sorts[t] != sorts[to]) {
            return no(11);
        }
        if (many < 0) {
            return no(6);
        }
        if (i < 0 || j < 0 || (long) i + many > trays[t].length || (long) j + many > trays[to].length) {
            return no(4);
        }
        long[] were = trays[t].clone();
        for (int k = 0; k < many; k++) {
            trays[to][j + k] = were[i + k];
        }
        return yes(1);
    }

    // ---- texts

    int feed(int a, int b, int c, int d, int e) {
        if (tape.length() > 880) {
            return -1;
        }
        for (int four : new int[] {a, b, c, d, e}) {
            tape.append((char) (four >>> 24)).append((char) (four >>> 16 & 255)).append((char) (four >>> 8 & 255)).append((char) (four & 255));
        }
        return tape.length();
    }

    long school(int n) {
        if (n < 0 || n > tape.length()) {
            return no(5);
        }
        String text = tape.substring(0, n);
        tape.setLength(0);
        World w = new World();
        try {
            Text r = new Text(text);
            while (!r.is("")) {
                part(w, r);
                r.pass(";");
            }
        } catch (Fault f) {
            return faulty(f);
        }
        fault = 0;
        faultPlace = -1;
        world = w;
        return yes(w.lessons.size());
    }

    private long faulty(Fault f) {
        fault = f.kind;
        faultPlace = f.place;
        return no(10);
    }

    private static String newName(World w, Text r) {
        String name = r.name();
        if (w.masters.contains(name) || w.lesson(name) >= 0 || w.pupil(name) >= 0) {
            throw r.wrong(3);
        }
        r.next();
        return name;
    }

    private static void part(World w, Text r) {
        r.must(r.is("master") || r.is("lesson") || r.is("child") || r.is("sounds"));
        if (r.is("sounds") && w.soundsTold) {
            throw r.wrong(5);
        }
        if (r.is("master") && w.masters.size() == 4 || r.is("lesson") && w.lessons.size() == 12 || r.is("child") && w.pupils.size() == 4) {
            throw r.wrong(6);
        }
        if (r.perhaps("master")) {
            w.masters.add(newName(w, r));
        } else if (r.perhaps("sounds")) {
            w.sounds = r.number(1, 9);
            w.soundsTold = true;
        } else if (r.perhaps("child")) {
            Pupil p = new Pupil();
            p.name = newName(w, r);
            p.gift = r.perhaps("gift") ? r.number(0, 9) : 0;
            p.purse = r.perhaps("purse") ? r.number(0, 999) : 0;
            w.pupils.add(p);
        } else {
            r.next();
            lessonPart(w, r);
        }
    }

    private static void lessonPart(World w, Text r) {
        Subject l = new Subject();
        l.name = newName(w, r);
        r.pass("gives");
        r.must(r.token != null && r.token.matches("[a-z]"));
        l.letter = r.token.charAt(0);
        r.next();
        r.pass("takes");
        l.days = r.number(1, 30);
        l.costs = r.perhaps("costs") ? r.number(0, 99) : 0;
        if (r.perhaps("by")) {
            l.master = w.masters.indexOf(r.name());
            if (l.master < 0) {
                throw r.wrong(3);
            }
            r.next();
        }
        if (r.perhaps("needs")) {
            do {
                int need = w.lesson(r.name());
                if (need < 0) {
                    throw r.wrong(3);
                }
                if (l.needs.contains(need)) {
                    throw r.wrong(5);
                }
                l.needs.add(need);
                r.next();
            } while (!r.is(";"));
        }
        w.lessons.add(l);
    }

    long age(int n) {
        if (n < 0 || n > 300 || n > tape.length()) {
            return no(5);
        }
        String text = tape.substring(0, n);
        tape.setLength(0);
        List<String[]> steps = new ArrayList<>();
        int many;
        try {
            Text r = new Text(text);
            int[] count = {0};
            steps(r, steps, count, 0);
            r.must(r.is(""));
            many = count[0];
        } catch (Fault f) {
            return faulty(f);
        }
        fault = 0;
        faultPlace = -1;
        world.age = steps;
        return yes(many);
    }

    /** The steps of one level, those of blocks with a row "end" behind them. */
    private void steps(Text r, List<String[]> steps, int[] count, int depth) {
        List<String> words = Arrays.asList("learn", "lose", "fate", "rest", "pay", "when", "loop", "stop");
        while (!r.is("") && !(r.is("end") && depth > 0)) {
            r.must(r.token != null && words.contains(r.token));
            if (count[0] == 30) {
                throw r.wrong(6);
            }
            if ((r.is("when") || r.is("loop")) && depth == 3) {
                throw r.wrong(7);
            }
            count[0]++;
            String word = r.token;
            r.next();
            if (word.equals("when") || word.equals("loop")) {
                steps.add(word.equals("when") ? test(r) : new String[] {word, "" + r.number(1, 99)});
                r.pass(";");
                steps(r, steps, count, depth + 1);
                r.pass("end");
                steps.add(new String[] {"end"});
            } else if (word.equals("learn")) {
                steps.add(new String[] {word, "" + pupilOf(r), "" + lessonOf(r)});
            } else if (word.equals("lose")) {
                steps.add(new String[] {word, "" + pupilOf(r), "" + r.number(0, 11)});
            } else if (word.equals("rest") || word.equals("pay")) {
                steps.add(new String[] {word, "" + pupilOf(r), "" + r.number(1, 99)});
            } else if (word.equals("fate")) {
                steps.add(new String[] {word, "" + pupilOf(r)});
            } else {
                steps.add(new String[] {word});
            }
            r.pass(";");
        }
    }

    private int pupilOf(Text r) {
        int p = world.pupil(r.name());
        if (p < 0) {
            throw r.wrong(3);
        }
        r.next();
        return p;
    }

    private int lessonOf(Text r) {
        int l = world.lesson(r.name());
        if (l < 0) {
            throw r.wrong(3);
        }
        r.next();
        return l;
    }

    private String[] test(Text r) {
        if (r.perhaps("says")) {
            return new String[] {"says", "" + pupilOf(r)};
        }
        if (r.perhaps("knows")) {
            return new String[] {"knows", "" + pupilOf(r), "" + lessonOf(r)};
        }
        r.pass("long");
        int p = pupilOf(r);
        r.must(r.is("<") || r.is(">") || r.is("="));
        String sign = r.token;
        r.next();
        return new String[] {"long", "" + p, "" + r.number(0, 12), sign};
    }

    int fault(int what) {
        return what == 0 ? fault : what == 1 ? faultPlace : -1;
    }

    long many(int what) {
        if (what < 0 || what > 3) {
            return no(5);
        }
        return yes(new int[] {world.masters.size(), world.lessons.size(), world.pupils.size(), world.sounds}[what]);
    }

    private boolean noLesson(long l) {
        return l < 0 || l >= world.lessons.size();
    }

    private boolean noPupil(long p) {
        return p < 0 || p >= world.pupils.size();
    }

    private static long set(List<Integer> members) {
        long set = 0;
        for (int m : members) {
            set += 1L << m;
        }
        return set;
    }

    long lesson(int lesson, int what) {
        if (noLesson(lesson)) {
            return no(2);
        }
        if (what < 0 || what > 4) {
            return no(5);
        }
        Subject l = world.lessons.get(lesson);
        if (what == 3 && l.master < 0) {
            return no(8);
        }
        return yes(new long[] {l.letter - 96, l.days, l.costs, l.master, set(l.needs)}[what]);
    }

    long child(int child, int what) {
        if (noPupil(child)) {
            return no(2);
        }
        if (what < 0 || what > 4) {
            return no(5);
        }
        Pupil p = world.pupils.get(child);
        return yes(new long[] {p.gift, p.purse, p.clock, p.learnt.size(), set(p.learnt)}[what]);
    }

    long letter(int child, int place, int what) {
        if (noPupil(child)) {
            return no(2);
        }
        if (what < 0 || what > 1) {
            return no(5);
        }
        Pupil p = world.pupils.get(child);
        if (place < 0 || place >= p.learnt.size()) {
            return no(8);
        }
        return yes(what == 1 ? p.learnt.get(place) : name(world, p).charAt(place) - 96);
    }

    private static String name(World w, Pupil p) {
        StringBuilder name = new StringBuilder();
        for (int l : p.learnt) {
            name.append(w.lessons.get(l).letter);
        }
        return name.toString();
    }

    long teaches(int master) {
        if (master < 0 || master >= world.masters.size()) {
            return no(2);
        }
        List<Integer> members = new ArrayList<>();
        for (int l = 0; l < world.lessons.size(); l++) {
            if (world.lessons.get(l).master == master) {
                members.add(l);
            }
        }
        return yes(set(members));
    }

    long copyName(int child, int t) {
        if (noTray(t)) {
            return no(1);
        }
        if (trays[t] == null) {
            return no(3);
        }
        if (noPupil(child)) {
            return no(2);
        }
        String name = name(world, world.pupils.get(child));
        if (name.length() > trays[t].length) {
            return no(4);
        }
        for (int i = 0; i < name.length(); i++) {
            trays[t][i] = name.charAt(i) - 96;
        }
        return yes(name.length());
    }

    // ---- learning

    private static boolean able(World w, List<Integer> known, int l) {
        return !known.contains(l) && known.containsAll(w.lessons.get(l).needs);
    }

    private static int days(World w, Pupil p, int l) {
        int days = w.lessons.get(l).days - p.gift;
        return days < 1 ? 1 : days;
    }

    /** 0 if it was learnt, else the STATUS of why not. */
    private static int learn(World w, Pupil p, int l) {
        if (!able(w, p.learnt, l)) {
            return 9;
        }
        if (p.purse < w.lessons.get(l).costs) {
            return 7;
        }
        p.learnt.add(l);
        p.purse -= w.lessons.get(l).costs;
        p.clock += days(w, p, l);
        return 0;
    }

    long learn(int child, int lesson) {
        if (noPupil(child) || noLesson(lesson)) {
            return no(2);
        }
        Pupil p = world.pupils.get(child);
        int why = learn(world, p, lesson);
        return why == 0 ? yes(p.learnt.size()) : no(why);
    }

    long lose(int child, int place) {
        if (noPupil(child)) {
            return no(2);
        }
        Pupil p = world.pupils.get(child);
        return place < 0 || place >= p.learnt.size() ? no(8) : yes(p.learnt.remove(place));
    }

    long rest(int child, int days) {
        if (noPupil(child)) {
            return no(2);
        }
        if (days < 1 || days > 99) {
            return no(5);
        }
        return yes(world.pupils.get(child).clock += days);
    }

    long pay(int child, int much) {
        if (noPupil(child)) {
            return no(2);
        }
        if (much < 1 || much > 99) {
            return no(5);
        }
        Pupil p = world.pupils.get(child);
        return p.purse + much > 9999 ? no(7) : yes(p.purse += much);
    }

    private static List<Integer> ready(World w, Pupil p, boolean money) {
        List<Integer> ready = new ArrayList<>();
        for (int l = 0; l < w.lessons.size(); l++) {
            if (able(w, p.learnt, l) && !(money && w.lessons.get(l).costs > p.purse)) {
                ready.add(l);
            }
        }
        return ready;
    }

    long ready(int child, int what) {
        if (noPupil(child)) {
            return no(2);
        }
        return what < 0 || what > 1 ? no(5) : yes(set(ready(world, world.pupils.get(child), what == 1)));
    }

    long takes(int child, int lesson) {
        return noPupil(child) || noLesson(lesson) ? no(2) : yes(days(world, world.pupils.get(child), lesson));
    }

    long opens(int child, int lesson) {
        if (noPupil(child) || noLesson(lesson)) {
            return no(2);
        }
        Pupil p = world.pupils.get(child);
        if (p.learnt.contains(lesson)) {
            return no(9);
        }
        Pupil more = p.copy();
        more.learnt.add(lesson);
        List<Integer> opened = ready(world, more, false);
        opened.removeAll(ready(world, p, false));
        return yes(opened.size());
    }

    private static int choice(World w, Pupil p) {
        List<Integer> all = ready(w, p, true);
        List<Integer> good = new ArrayList<>();
        for (int l : all) {
            if (said(w, name(w, p) + w.lessons.get(l).letter)) {
                good.add(l);
            }
        }
        int best = -1;
        for (int l : good.isEmpty() ? all : good) {
            if (best < 0 || days(w, p, l) < days(w, p, best)) {
                best = l;
            }
        }
        return best;
    }

    long choice(int child) {
        if (noPupil(child)) {
            return no(2);
        }
        int best = choice(world, world.pupils.get(child));
        return best < 0 ? no(8) : yes(best);
    }

    // ---- sounds

    private static boolean said(World w, String name) {
        return !name.isEmpty() && !name.matches(".*([aeiou]{" + (w.sounds + 1) + "}|[^aeiou]{" + (w.sounds + 1) + "}).*");
    }

    private String nameOf(int child) {
        return name(world, world.pupils.get(child));
    }

    long said(int child) {
        return noPupil(child) ? no(2) : yes(said(world, nameOf(child)) ? 1 : 0);
    }

    long stumbles(int child) {
        if (noPupil(child)) {
            return no(2);
        }
        String name = nameOf(child);
        for (int i = 1; i <= name.length(); i++) {
            if (!said(world, name.substring(0, i))) {
                return yes(i - 1);
            }
        }
        return no(8);
    }

    long drop(int child) {
        if (noPupil(child)) {
            return no(2);
        }
        String name = nameOf(child);
        int least = 99;
        for (int kept = 1; kept < 1 << name.length(); kept++) {
            StringBuilder left = new StringBuilder();
            for (int i = 0; i < name.length(); i++) {
                if ((kept >> i & 1) == 1) {
                    left.append(name.charAt(i));
                }
            }
            if (said(world, left.toString())) {
                least = Math.min(least, name.length() - left.length());
            }
        }
        return name.isEmpty() ? no(8) : yes(least);
    }

    private int weakPlace(String name) {
        for (int i = 0; i < name.length(); i++) {
            if (!said(world, name.substring(0, i) + name.substring(i + 1))) {
                return i;
            }
        }
        return -1;
    }

    long firm(int child) {
        return noPupil(child) ? no(2) : yes(said(world, nameOf(child)) && weakPlace(nameOf(child)) < 0 ? 1 : 0);
    }

    long weak(int child) {
        if (noPupil(child)) {
            return no(2);
        }
        int place = weakPlace(nameOf(child));
        return !said(world, nameOf(child)) || place < 0 ? no(8) : yes(place);
    }

    long vowels(int child) {
        return noPupil(child) ? no(2) : yes(nameOf(child).replaceAll("[^aeiou]", "").length());
    }

    long rhyme(int a, int b) {
        if (noPupil(a) || noPupil(b)) {
            return no(2);
        }
        if (a == b) {
            return no(5);
        }
        int same = 0;
        while (same < nameOf(a).length() && nameOf(b).endsWith(nameOf(a).substring(nameOf(a).length() - same - 1))) {
            same++;
        }
        return yes(same);
    }

    long apart(int a, int b) {
        if (noPupil(a) || noPupil(b)) {
            return no(2);
        }
        if (a == b) {
            return no(5);
        }
        if (nameOf(a).equals(nameOf(b))) {
            return no(8);
        }
        int same = 0;
        while (same < nameOf(a).length() && nameOf(b).startsWith(nameOf(a).substring(0, same + 1))) {
            same++;
        }
        return yes(same);
    }

    long behind(int a, int b) {
        if (noPupil(a) || noPupil(b)) {
            return no(2);
        }
        if (a == b) {
            return no(5);
        }
        if (!nameOf(a).equals(nameOf(b))) {
            return no(9);
        }
        for (int i = 0; i < nameOf(a).length(); i++) {
            if (!world.pupils.get(a).learnt.get(i).equals(world.pupils.get(b).learnt.get(i))) {
                return yes(i);
            }
        }
        return no(8);
    }

    // ---- lives, told names

    private int row(int t, int many, int least) {
        if (noTray(t)) {
            return 1;
        }
        if (trays[t] == null) {
            return 3;
        }
        if (many > trays[t].length) {
            return 4;
        }
        return many < least || many > 12 ? 5 : 0;
    }

    long life(int t, int many) {
        int why = row(t, many, 1);
        if (why != 0) {
            return no(why);
        }
        for (int i = 0; i < many; i++) {
            if (noLesson(trays[t][i])) {
                return no(2);
            }
        }
        List<Integer> known = new ArrayList<>();
        for (int i = 0; i < many; i++) {
            if (!able(world, known, (int) trays[t][i])) {
                return yes(i);
            }
            known.add((int) trays[t][i]);
        }
        return no(8);
    }

    /** All rows of so many lessons that can be learnt from nothing on, by their numbers; those of a name, if one is told. */
    private List<List<Integer>> rows(int many, String name) {
        List<List<Integer>> rows = new ArrayList<>();
        grow(rows, new ArrayList<>(), many, name);
        return rows;
    }

    private void grow(List<List<Integer>> rows, List<Integer> row, int many, String name) {
        if (row.size() == many) {
            rows.add(new ArrayList<>(row));
            return;
        }
        for (int l = 0; l < world.lessons.size(); l++) {
            if (able(world, row, l) && (name == null || name.charAt(row.size()) == world.lessons.get(l).letter)) {
                row.add(l);
                grow(rows, row, many, name);
                row.remove(row.size() - 1);
            }
        }
    }

    private String toldName;

    private int toldWhy(int t, int many) {
        int why = row(t, many, 0);
        if (why != 0) {
            return why;
        }
        StringBuilder name = new StringBuilder();
        for (int i = 0; i < many; i++) {
            if (trays[t][i] < 1 || trays[t][i] > 26) {
                return 5;
            }
            name.append((char) (96 + trays[t][i]));
        }
        toldName = name.toString();
        return 0;
    }

    private long least(int t, int many, boolean costs) {
        int why = toldWhy(t, many);
        if (why != 0) {
            return no(why);
        }
        long best = Long.MAX_VALUE;
        for (List<Integer> row : rows(many, toldName)) {
            long sum = 0;
            for (int l : row) {
                sum += costs ? world.lessons.get(l).costs : world.lessons.get(l).days;
            }
            best = Math.min(best, sum);
        }
        return best == Long.MAX_VALUE ? no(8) : yes(best);
    }

    long soonest(int t, int many) {
        return least(t, many, false);
    }

    long cheapest(int t, int many) {
        return least(t, many, true);
    }

    long ways(int t, int many) {
        int why = toldWhy(t, many);
        return why != 0 ? no(why) : yes(rows(many, toldName).size());
    }

    long first(int t, int many) {
        int why = toldWhy(t, many);
        if (why != 0) {
            return no(why);
        }
        List<List<Integer>> rows = rows(many, toldName);
        if (rows.isEmpty()) {
            return no(8);
        }
        firstWay = rows.get(0);
        return yes(firstWay.size());
    }

    long firstAt(int k) {
        return k < 0 || k >= firstWay.size() ? no(8) : yes(firstWay.get(k));
    }

    long goes(int t, int many) {
        int why = toldWhy(t, many);
        if (why != 0) {
            return no(why);
        }
        int far = 0;
        while (far < many && !rows(far + 1, toldName.substring(0, far + 1)).isEmpty()) {
            far++;
        }
        return yes(far);
    }

    long lives(int child) {
        return noPupil(child) ? no(2) : yes(rows(nameOf(child).length(), nameOf(child)).size());
    }

    long orders(int n) {
        return n < 0 || n > 12 ? no(5) : yes(rows(n, null).size());
    }

    private java.util.TreeSet<Integer> below(int lesson) {
        java.util.TreeSet<Integer> all = new java.util.TreeSet<>();
        for (int need : world.lessons.get(lesson).needs) {
            all.add(need);
            all.addAll(below(need));
        }
        return all;
    }

    long reach(int lesson) {
        return noLesson(lesson) ? no(2) : yes(below(lesson).size() + 1);
    }

    long sayable(int n) {
        if (n < 1 || n > 12) {
            return no(5);
        }
        List<List<Integer>> rows = rows(n, null);
        if (rows.isEmpty()) {
            return no(8);
        }
        int good = 0;
        for (List<Integer> row : rows) {
            Pupil p = new Pupil();
            p.learnt = row;
            good += said(world, name(world, p)) ? 1 : 0;
        }
        tell(good, rows.size());
        return yes(1);
    }

    long root() {
        int best = -1;
        int most = -1;
        for (int l = 0; l < world.lessons.size(); l++) {
            int needing = 0;
            for (int other = 0; other < world.lessons.size(); other++) {
                needing += below(other).contains(l) ? 1 : 0;
            }
            if (needing > most) {
                most = needing;
                best = l;
            }
        }
        return best < 0 ? no(8) : yes(best);
    }

    // ---- masters' days

    private int planWhy(int c) {
        if (trays[c] == null) {
            return 0;
        }
        for (long l : trays[c]) {
            if (noLesson(l)) {
                return 2;
            }
        }
        if (trays[c].length > 12) {
            return 5;
        }
        List<Integer> known = new ArrayList<>(world.pupils.get(c).learnt);
        for (long l : trays[c]) {
            if (!able(world, known, (int) l)) {
                return 9;
            }
            known.add((int) l);
        }
        return 0;
    }

    /** From begin to begin: of all that could be next the earliest, then of the child first told. */
    long plans() {
        int children = world.pupils.size();
        for (int c = 0; c < children; c++) {
            int why = planWhy(c);
            if (why != 0) {
                return no(why);
            }
        }
        begins = new ArrayList<>();
        waits = new int[children];
        int[] free = new int[children];
        int[] masters = new int[4];
        for (int c = 0; c < children; c++) {
            begins.add(new ArrayList<>());
        }
        int done = 0;
        while (true) {
            int best = -1;
            int bestDay = 0;
            for (int c = 0; c < children; c++) {
                if (trays[c] != null && begins.get(c).size() < trays[c].length) {
                    int master = world.lessons.get((int) trays[c][begins.get(c).size()]).master;
                    int day = Math.max(free[c], master < 0 ? 0 : masters[master]);
                    if (best < 0 || day < bestDay) {
                        best = c;
                        bestDay = day;
                    }
                }
            }
            if (best < 0) {
                return yes(done);
            }
            int lesson = (int) trays[best][begins.get(best).size()];
            begins.get(best).add(bestDay);
            waits[best] += bestDay - free[best];
            free[best] = bestDay + days(world, world.pupils.get(best), lesson);
            if (world.lessons.get(lesson).master >= 0) {
                masters[world.lessons.get(lesson).master] = free[best];
            }
            done = Math.max(done, free[best]);
        }
    }

    long waited(int child) {
        if (noPupil(child)) {
            return no(2);
        }
        return begins == null || child >= begins.size() ? no(8) : yes(waits[child]);
    }

    long began(int child, int k) {
        if (noPupil(child)) {
            return no(2);
        }
        if (begins == null || child >= begins.size() || k < 0 || k >= begins.get(child).size()) {
            return no(8);
        }
        return yes(begins.get(child).get(k));
    }

    // ---- ages

    private static int draw(int[] s, int by) {
        s[0] = (int) ((s[0] * 2887L + 10477L) % 65536L);
        return s[0] / 8 % by;
    }

    /** Steps done, then missed, learnt, lost, left. */
    private static int[] run(World w, int seed) {
        int[] count = new int[5];
        int[] s = {seed};
        List<String[]> steps = w.age;
        List<int[]> open = new ArrayList<>();
        for (int at = 0; at < steps.size(); at++) {
            String[] step = steps.get(at);
            if (step[0].equals("end")) {
                int[] block = open.get(open.size() - 1);
                if (--block[1] > 0) {
                    at = block[0];
                } else {
                    open.remove(open.size() - 1);
                }
                continue;
            }
            if (count[0] == 300) {
                count[4] = 1;
                return count;
            }
            count[0]++;
            if (step[0].equals("stop")) {
                return count;
            }
            if (step[0].equals("loop")) {
                open.add(new int[] {at, Integer.parseInt(step[1])});
            } else if (step[0].equals("says") || step[0].equals("long") || step[0].equals("knows")) {
                if (holds(w, step)) {
                    open.add(new int[] {at, 1});
                } else {
                    at = endOf(steps, at);
                }
            } else {
                deed(w, step, s, count);
            }
        }
        return count;
    }

    private static int endOf(List<String[]> steps, int from) {
        int depth = 0;
        int at = from;
        do {
            String word = steps.get(at)[0];
            depth += word.equals("end") ? -1 : Arrays.asList("loop", "says", "long", "knows").contains(word) ? 1 : 0;
            at++;
        } while (depth > 0);
        return at - 1;
    }

    private static boolean holds(World w, String[] step) {
        Pupil p = w.pupils.get(Integer.parseInt(step[1]));
        if (step[0].equals("says")) {
            return said(w, name(w, p));
        }
        int n = Integer.parseInt(step[2]);
        if (step[0].equals("knows")) {
            return p.learnt.contains(n);
        }
        int sign = Integer.signum(p.learnt.size() - n);
        return "<=>".charAt(sign + 1) == step[3].charAt(0);
    }

    private static void deed(World w, String[] step, int[] s, int[] count) {
        Pupil p = w.pupils.get(Integer.parseInt(step[1]));
        int n = step.length > 2 ? Integer.parseInt(step[2]) : -1;
        int learn = step[0].equals("learn") ? n : -1;
        int lose = step[0].equals("lose") ? n : -1;
        if (step[0].equals("rest")) {
            p.clock += n;
            return;
        }
        if (step[0].equals("pay")) {
            if (p.purse + n > 9999) {
                count[1]++;
            } else {
                p.purse += n;
            }
            return;
        }
        if (step[0].equals("fate")) {
            int what = draw(s, 16);
            List<Integer> ready = ready(w, p, true);
            if (what < 8) {
                learn = choice(w, p);
            } else if (what < 14) {
                learn = ready.isEmpty() ? -1 : ready.get(draw(s, ready.size()));
            } else {
                lose = p.learnt.isEmpty() ? -1 : draw(s, p.learnt.size());
            }
        }
        if (learn >= 0 && learn(w, p, learn) == 0) {
            count[2]++;
        } else if (lose >= 0 && lose < p.learnt.size()) {
            p.learnt.remove(lose);
            count[3]++;
        } else {
            count[1]++;
        }
    }

    long live(int seed) {
        if (seed < 0 || seed > 9999) {
            return no(5);
        }
        if (world.age == null) {
            return no(8);
        }
        told = run(world, seed);
        return yes(told[0]);
    }

    long lived(int what) {
        if (what < 0 || what > 3) {
            return no(5);
        }
        return told == null ? no(8) : yes(told[what + 1]);
    }

    long odds(int child, int seed, int many) {
        if (noPupil(child)) {
            return no(2);
        }
        if (seed < 0 || many < 1 || many > 20 || (long) seed + many > 10000) {
            return no(5);
        }
        if (world.age == null) {
            return no(8);
        }
        int good = 0;
        for (int i = 0; i < many; i++) {
            World w = world.copy();
            run(w, seed + i);
            good += said(w, name(w, w.pupils.get(child))) ? 1 : 0;
        }
        tell(good, many);
        return yes(1);
    }

    // ---- marks

    long mark() {
        if (marks.size() == 3) {
            return no(7);
        }
        marks.add(world.copy());
        return yes(marks.size());
    }

    long back() {
        if (marks.isEmpty()) {
            return no(8);
        }
        world = marks.remove(marks.size() - 1);
        return yes(marks.size());
    }
}
