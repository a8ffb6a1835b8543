/** A country in which a child's name is earned letter by letter; DOC.md numbers what it promises. */
public final class LetterNames {
    public static final int NONE = -1;

    private static final int FINE = 0;
    private static final int NO_TRAY = 1;
    private static final int NOBODY = 2;
    private static final int MISSING = 3;
    private static final int NO_PLACE = 4;
    private static final int NO_NUMBER = 5;
    private static final int BELOW_ZERO = 6;
    private static final int TOO_MANY = 7;
    private static final int NOT_THERE = 8;
    private static final int CANNOT = 9;
    private static final int FAULTY = 10;
    private static final int UNLIKE_SORTS = 11;

    private static final int TRAYS = 4;
    private static final int SORTS = 4;
    private static final int LONGEST_TRAY = 60;
    private static final int LONGEST_TEXT = 900;
    private static final int LONGEST_AGE = 300;
    private static final int BYTES_FED = 20;
    private static final int MOST_MASTERS = 4;
    private static final int MOST_LESSONS = 12;
    private static final int MOST_CHILDREN = 4;
    private static final int MOST_STEPS = 30;
    private static final int MOST_DONE = 300;
    private static final int DEEPEST = 3;
    private static final int MOST_MARKS = 3;
    private static final int MOST_AT_ONCE = 99;
    private static final int FULLEST_PURSE = 9999;
    private static final int LAST_SEED = 9999;
    private static final int MOST_SEEDS = 20;
    private static final int LAST_LETTER = 26;
    private static final int ANY_LETTER = 0;
    private static final int SOUNDS_UNTOLD = 2;

    private final Tray[] trays;
    private final Reader reader;
    private final School[] kept;
    private final School trial;
    private final Living latest;
    private final Living tried;
    private final Search search;
    private final Plan plan;
    private School school;
    private School draft;
    private Age draftAge;
    private int status;
    private long top;
    private long bottom;
    private int faultKind;
    private int faultPlace;
    private int marks;

    public LetterNames() {
        trays = new Tray[TRAYS];
        for (int t = 0; t < TRAYS; t++) {
            trays[t] = new Tray();
        }
        kept = new School[MOST_MARKS];
        for (int m = 0; m < MOST_MARKS; m++) {
            kept[m] = new School();
        }
        reader = new Reader();
        trial = new School();
        latest = new Living();
        tried = new Living();
        search = new Search();
        plan = new Plan();
        school = new School();
        draft = new School();
        draftAge = new Age();
        bottom = 1L;
        faultKind = NONE;
        faultPlace = NONE;
    }

    public int status() {
        return status;
    }

    public long top() {
        return top;
    }

    public long bottom() {
        return bottom;
    }

    // ---- TRAYS

    public boolean tray(int tray, int sort, int many) {
        if (!isTray(tray) || sort < 0 || sort >= SORTS) {
            return deny(NO_TRAY);
        }
        if (many > LONGEST_TRAY) {
            return deny(NO_NUMBER);
        }
        if (many < 0) {
            return deny(BELOW_ZERO);
        }
        trays[tray].lay(sort, many);
        return agree();
    }

    public boolean write(int tray, int place, long v) {
        int why = askPlace(tray, place);
        if (why != FINE) {
            return deny(why);
        }
        trays[tray].put(place, v);
        return agree();
    }

    public long read(int tray, int place) {
        int why = askPlace(tray, place);
        if (why != FINE) {
            return refuse(why);
        }
        status = FINE;
        return trays[tray].numbers[place];
    }

    public boolean pour(int tray, int i, int to, int j, int many) {
        if (!isTray(tray) || !isTray(to)) {
            return deny(NO_TRAY);
        }
        Tray from = trays[tray];
        Tray into = trays[to];
        if (!from.there || !into.there) {
            return deny(MISSING);
        }
        if (from.sort != into.sort) {
            return deny(UNLIKE_SORTS);
        }
        if (many < 0) {
            return deny(BELOW_ZERO);
        }
        if (!from.hasRow(i, many) || !into.hasRow(j, many)) {
            return deny(NO_PLACE);
        }
        System.arraycopy(from.numbers, i, into.numbers, j, many);
        return agree();
    }

    // ---- texts

    public int feed(int a, int b, int c, int d, int e) {
        if (reader.fed + BYTES_FED > LONGEST_TEXT) {
            return NONE;
        }
        reader.takeIn(a);
        reader.takeIn(b);
        reader.takeIn(c);
        reader.takeIn(d);
        reader.takeIn(e);
        return reader.fed;
    }

    public int school(int n) {
        if (n < 0 || n > reader.fed) {
            return refuse(NO_NUMBER);
        }
        reader.begin(n);
        draft.readText(reader);
        keepFault();
        if (faultKind != 0) {
            return refuse(FAULTY);
        }
        School old = school;
        school = draft;
        draft = old;
        return answer(school.lessons);
    }

    public int age(int n) {
        if (n < 0 || n > reader.fed || n > LONGEST_AGE) {
            return refuse(NO_NUMBER);
        }
        reader.begin(n);
        draftAge.readText(reader, school);
        keepFault();
        if (faultKind != 0) {
            return refuse(FAULTY);
        }
        Age old = school.age;
        school.age = draftAge;
        draftAge = old;
        return answer(school.age.steps);
    }

    public int fault(int what) {
        if (what == 0) {
            return faultKind;
        }
        return what == 1 ? faultPlace : NONE;
    }

    public int many(int what) {
        switch (what) {
            case 0: return answer(school.masters);
            case 1: return answer(school.lessons);
            case 2: return answer(school.children);
            case 3: return answer(school.sounds);
            default: return refuse(NO_NUMBER);
        }
    }

    public int lesson(int lesson, int what) {
        if (!school.hasLesson(lesson)) {
            return refuse(NOBODY);
        }
        Lesson l = school.lessonRow[lesson];
        switch (what) {
            case 0: return answer(l.letter);
            case 1: return answer(l.days);
            case 2: return answer(l.costs);
            case 3: return answerIfThere(l.master);
            case 4: return answer(l.needs);
            default: return refuse(NO_NUMBER);
        }
    }

    public int child(int child, int what) {
        if (!school.hasChild(child)) {
            return refuse(NOBODY);
        }
        Child c = school.childRow[child];
        switch (what) {
            case 0: return answer(c.gift);
            case 1: return answer(c.purse);
            case 2: return answer(c.clock);
            case 3: return answer(c.length);
            case 4: return answer(c.known);
            default: return refuse(NO_NUMBER);
        }
    }

    public int letter(int child, int place, int what) {
        if (!school.hasChild(child)) {
            return refuse(NOBODY);
        }
        if (what < 0 || what > 1) {
            return refuse(NO_NUMBER);
        }
        Child c = school.childRow[child];
        if (!c.hasPlace(place)) {
            return refuse(NOT_THERE);
        }
        return answer(what == 0 ? school.letterAt(c, place) : c.learnt[place]);
    }

    public int teaches(int master) {
        if (!school.hasMaster(master)) {
            return refuse(NOBODY);
        }
        int set = 0;
        for (int l = 0; l < school.lessons; l++) {
            if (school.lessonRow[l].master == master) {
                set |= 1 << l;
            }
        }
        return answer(set);
    }

    public int copyName(int child, int tray) {
        if (!isTray(tray)) {
            return refuse(NO_TRAY);
        }
        Tray t = trays[tray];
        if (!t.there) {
            return refuse(MISSING);
        }
        if (!school.hasChild(child)) {
            return refuse(NOBODY);
        }
        Child c = school.childRow[child];
        if (c.length > t.length) {
            return refuse(NO_PLACE);
        }
        for (int p = 0; p < c.length; p++) {
            t.put(p, school.letterAt(c, p));
        }
        return answer(c.length);
    }

    // ---- learning

    public int learn(int child, int lesson) {
        if (!school.hasChild(child) || !school.hasLesson(lesson)) {
            return refuse(NOBODY);
        }
        Child c = school.childRow[child];
        if (!school.lets(c.known, lesson)) {
            return refuse(CANNOT);
        }
        if (!school.canPay(c, lesson)) {
            return refuse(TOO_MANY);
        }
        school.teach(c, lesson);
        return answer(c.length);
    }

    public int lose(int child, int place) {
        if (!school.hasChild(child)) {
            return refuse(NOBODY);
        }
        Child c = school.childRow[child];
        if (!c.hasPlace(place)) {
            return refuse(NOT_THERE);
        }
        return answer(c.forget(place));
    }

    public int rest(int child, int days) {
        if (!school.hasChild(child)) {
            return refuse(NOBODY);
        }
        if (days < 1 || days > MOST_AT_ONCE) {
            return refuse(NO_NUMBER);
        }
        Child c = school.childRow[child];
        c.clock += days;
        return answer(c.clock);
    }

    public int pay(int child, int much) {
        if (!school.hasChild(child)) {
            return refuse(NOBODY);
        }
        if (much < 1 || much > MOST_AT_ONCE) {
            return refuse(NO_NUMBER);
        }
        Child c = school.childRow[child];
        return c.earn(much) ? answer(c.purse) : refuse(TOO_MANY);
    }

    public int ready(int child, int what) {
        if (!school.hasChild(child)) {
            return refuse(NOBODY);
        }
        if (what < 0 || what > 1) {
            return refuse(NO_NUMBER);
        }
        return answer(school.readySet(school.childRow[child], what == 1));
    }

    public int takes(int child, int lesson) {
        if (!school.hasChild(child) || !school.hasLesson(lesson)) {
            return refuse(NOBODY);
        }
        return answer(school.daysFor(school.childRow[child], lesson));
    }

    public int opens(int child, int lesson) {
        if (!school.hasChild(child) || !school.hasLesson(lesson)) {
            return refuse(NOBODY);
        }
        int known = school.childRow[child].known;
        int more = known | 1 << lesson;
        if (more == known) {
            return refuse(CANNOT);
        }
        int opened = 0;
        for (int l = 0; l < school.lessons; l++) {
            if (school.lets(more, l) && !school.lets(known, l)) {
                opened++;
            }
        }
        return answer(opened);
    }

    public int choice(int child) {
        if (!school.hasChild(child)) {
            return refuse(NOBODY);
        }
        return answerIfThere(school.choose(school.childRow[child]));
    }

    // ---- sounds

    public int said(int child) {
        if (!school.hasChild(child)) {
            return refuse(NOBODY);
        }
        return answer(school.isSaid(school.childRow[child], NONE) ? 1 : 0);
    }

    public int stumbles(int child) {
        if (!school.hasChild(child)) {
            return refuse(NOBODY);
        }
        school.voice.spell(school, school.childRow[child], NONE);
        return answerIfThere(school.voice.stumble(school.sounds));
    }

    public int drop(int child) {
        if (!school.hasChild(child)) {
            return refuse(NOBODY);
        }
        Child c = school.childRow[child];
        if (c.length == 0) {
            return refuse(NOT_THERE);
        }
        school.voice.spell(school, c, NONE);
        return answer(school.voice.tooMany(school.sounds));
    }

    public int firm(int child) {
        if (!school.hasChild(child)) {
            return refuse(NOBODY);
        }
        Child c = school.childRow[child];
        return answer(school.isSaid(c, NONE) && school.weakPlace(c) == NONE ? 1 : 0);
    }

    public int weak(int child) {
        if (!school.hasChild(child)) {
            return refuse(NOBODY);
        }
        return answerIfThere(school.weakPlace(school.childRow[child]));
    }

    public int vowels(int child) {
        if (!school.hasChild(child)) {
            return refuse(NOBODY);
        }
        Voice voice = school.voice;
        voice.spell(school, school.childRow[child], NONE);
        int found = 0;
        for (int p = 0; p < voice.length; p++) {
            if (voice.vowels[p]) {
                found++;
            }
        }
        return answer(found);
    }

    public int rhyme(int a, int b) {
        int why = askTwo(a, b);
        if (why != FINE) {
            return refuse(why);
        }
        return answer(school.sameAtEnd(school.childRow[a], school.childRow[b]));
    }

    public int apart(int a, int b) {
        int why = askTwo(a, b);
        if (why != FINE) {
            return refuse(why);
        }
        return answerIfThere(school.unlikePlace(school.childRow[a], school.childRow[b]));
    }

    public int behind(int a, int b) {
        int why = askTwo(a, b);
        if (why != FINE) {
            return refuse(why);
        }
        Child one = school.childRow[a];
        Child two = school.childRow[b];
        if (school.unlikePlace(one, two) != NONE) {
            return refuse(CANNOT);
        }
        for (int p = 0; p < one.length && p < two.length; p++) {
            if (one.learnt[p] != two.learnt[p]) {
                return answer(p);
            }
        }
        return refuse(NOT_THERE);
    }

    // ---- lives, told names

    public int life(int tray, int many) {
        int why = askRow(tray, many, 1);
        if (why != FINE) {
            return refuse(why);
        }
        Tray t = trays[tray];
        if (!school.hasAllLessons(t, many)) {
            return refuse(NOBODY);
        }
        return answerIfThere(school.stopOfLife(t, many, 0));
    }

    public int soonest(int tray, int many) {
        int why = askTold(tray, many);
        if (why != FINE) {
            return refuse(why);
        }
        return answerIfThere(search.least(school, false));
    }

    public int cheapest(int tray, int many) {
        int why = askTold(tray, many);
        if (why != FINE) {
            return refuse(why);
        }
        return answerIfThere(search.least(school, true));
    }

    public long ways(int tray, int many) {
        int why = askTold(tray, many);
        if (why != FINE) {
            return refuse(why);
        }
        status = FINE;
        return search.count(school);
    }

    public int first(int tray, int many) {
        int why = askTold(tray, many);
        if (why != FINE) {
            return refuse(why);
        }
        return search.findFirst(school) ? answer(search.wayLength) : refuse(NOT_THERE);
    }

    public int firstAt(int k) {
        if (k < 0 || k >= search.wayLength) {
            return refuse(NOT_THERE);
        }
        return answer(search.way[k]);
    }

    public int goes(int tray, int many) {
        int why = askTold(tray, many);
        if (why != FINE) {
            return refuse(why);
        }
        search.count(school);
        return answer(search.furthest);
    }

    public long lives(int child) {
        if (!school.hasChild(child)) {
            return refuse(NOBODY);
        }
        search.hearName(school, school.childRow[child]);
        status = FINE;
        return search.count(school);
    }

    public long orders(int n) {
        if (n < 0 || n > MOST_LESSONS) {
            return refuse(NO_NUMBER);
        }
        search.hearAny(n);
        status = FINE;
        return search.count(school);
    }

    public int reach(int lesson) {
        if (!school.hasLesson(lesson)) {
            return refuse(NOBODY);
        }
        return answer(Integer.bitCount(school.allNeeds(lesson)) + 1);
    }

    public boolean sayable(int n) {
        if (n < 1 || n > MOST_LESSONS) {
            return deny(NO_NUMBER);
        }
        search.hearAny(n);
        long all = search.count(school);
        if (all == 0L) {
            return deny(NOT_THERE);
        }
        tellFraction(search.countSaid(school), all);
        return agree();
    }

    public int root() {
        int best = NONE;
        int most = NONE;
        for (int l = 0; l < school.lessons; l++) {
            int needing = school.needing(l);
            if (needing > most) {
                most = needing;
                best = l;
            }
        }
        return answerIfThere(best);
    }

    // ---- masters' days

    public int plans() {
        for (int c = 0; c < school.children; c++) {
            int why = askPlan(school.childRow[c], trays[c]);
            if (why != FINE) {
                return refuse(why);
            }
        }
        plan.make(school, trays);
        return answer(plan.done);
    }

    public int waited(int child) {
        if (!school.hasChild(child)) {
            return refuse(NOBODY);
        }
        return plan.hasChild(child) ? answer(plan.waits[child]) : refuse(NOT_THERE);
    }

    public int began(int child, int k) {
        if (!school.hasChild(child)) {
            return refuse(NOBODY);
        }
        if (!plan.hasChild(child) || k < 0 || k >= plan.begun[child]) {
            return refuse(NOT_THERE);
        }
        return answer(plan.days[child][k]);
    }

    // ---- AGES

    public int live(int seed) {
        if (seed < 0 || seed > LAST_SEED) {
            return refuse(NO_NUMBER);
        }
        if (!school.age.there) {
            return refuse(NOT_THERE);
        }
        latest.run(school, seed);
        return answer(latest.done);
    }

    public int lived(int what) {
        if (what < 0 || what > 3) {
            return refuse(NO_NUMBER);
        }
        if (!latest.there) {
            return refuse(NOT_THERE);
        }
        switch (what) {
            case 0: return answer(latest.missed);
            case 1: return answer(latest.learnt);
            case 2: return answer(latest.lost);
            default: return answer(latest.cutOff ? 1 : 0);
        }
    }

    public boolean odds(int child, int seed, int many) {
        if (!school.hasChild(child)) {
            return deny(NOBODY);
        }
        if (seed < 0 || seed > LAST_SEED || many < 1 || many > MOST_SEEDS || seed + many - 1 > LAST_SEED) {
            return deny(NO_NUMBER);
        }
        if (!school.age.there) {
            return deny(NOT_THERE);
        }
        int good = 0;
        for (int s = 0; s < many; s++) {
            trial.copyFrom(school);
            tried.run(trial, seed + s);
            if (trial.isSaid(trial.childRow[child], NONE)) {
                good++;
            }
        }
        tellFraction(good, many);
        return agree();
    }

    // ---- MARKS

    public int mark() {
        if (marks >= MOST_MARKS) {
            return refuse(TOO_MANY);
        }
        kept[marks].copyFrom(school);
        marks++;
        return answer(marks);
    }

    public int back() {
        if (marks <= 0) {
            return refuse(NOT_THERE);
        }
        marks--;
        school.copyFrom(kept[marks]);
        return answer(marks);
    }

    // ---- what the calls share

    private int answer(int value) {
        status = FINE;
        return value;
    }

    private int refuse(int why) {
        status = why;
        return NONE;
    }

    private int answerIfThere(int value) {
        return value == NONE ? refuse(NOT_THERE) : answer(value);
    }

    private boolean agree() {
        status = FINE;
        return true;
    }

    private boolean deny(int why) {
        status = why;
        return false;
    }

    private void keepFault() {
        reader.fed = 0;
        faultKind = reader.wrong;
        faultPlace = reader.wrong == 0 ? NONE : reader.wrongAt;
    }

    private void tellFraction(long over, long under) {
        long a = over;
        long b = under;
        // Euclid halves in two rounds at the latest, so 200 are plenty for a long.
        for (int round = 0; round < 200 && b != 0L; round++) {
            long left = a % b;
            a = b;
            b = left;
        }
        long shared = a > 0L ? a : 1L;
        top = over / shared;
        bottom = under / shared;
    }

    private static boolean isTray(int tray) {
        return tray >= 0 && tray < TRAYS;
    }

    private int askPlace(int tray, int place) {
        if (!isTray(tray)) {
            return NO_TRAY;
        }
        if (!trays[tray].there) {
            return MISSING;
        }
        return place >= 0 && place < trays[tray].length ? FINE : NO_PLACE;
    }

    private int askRow(int tray, int howMany, int least) {
        if (!isTray(tray)) {
            return NO_TRAY;
        }
        if (!trays[tray].there) {
            return MISSING;
        }
        if (howMany > trays[tray].length) {
            return NO_PLACE;
        }
        return howMany >= least && howMany <= MOST_LESSONS ? FINE : NO_NUMBER;
    }

    private int askTold(int tray, int howMany) {
        int why = askRow(tray, howMany, 0);
        if (why != FINE) {
            return why;
        }
        return search.hearTray(trays[tray], howMany) ? FINE : NO_NUMBER;
    }

    private int askTwo(int a, int b) {
        if (!school.hasChild(a) || !school.hasChild(b)) {
            return NOBODY;
        }
        return a == b ? NO_NUMBER : FINE;
    }

    private int askPlan(Child c, Tray t) {
        if (!t.there) {
            return FINE;
        }
        if (!school.hasAllLessons(t, t.length)) {
            return NOBODY;
        }
        if (t.length > MOST_LESSONS) {
            return NO_NUMBER;
        }
        return school.stopOfLife(t, t.length, c.known) == NONE ? FINE : CANNOT;
    }

    /** A row of numbers, each cut to the row's sort as it comes. */
    private static final class Tray {
        final long[] numbers = new long[LONGEST_TRAY];
        boolean there;
        int sort;
        int length;

        void lay(int newSort, int newLength) {
            there = true;
            sort = newSort;
            length = newLength;
            for (int p = 0; p < LONGEST_TRAY; p++) {
                numbers[p] = 0L;
            }
        }

        boolean hasRow(int from, int howMany) {
            return from >= 0 && from <= length - howMany;
        }

        void put(int place, long v) {
            switch (sort) {
                case 0: numbers[place] = (byte) v; break;
                case 1: numbers[place] = (short) v; break;
                case 2: numbers[place] = (int) v; break;
                default: numbers[place] = v; break;
            }
        }
    }

    /** The tape, read TOKEN by TOKEN, and the first FAULT along the text. */
    private static final class Reader {
        static final int AT_END = 0;
        static final int WORD = 1;
        static final int NUMBER = 2;
        static final int SIGN = 3;
        static final int NO_TOKEN = 4;

        static final int FAULT_TOKEN = 1;
        static final int FAULT_PLACE = 2;
        static final int FAULT_NAME = 3;
        static final int FAULT_NUMBER = 4;
        static final int FAULT_TWICE = 5;
        static final int FAULT_MANY = 6;
        static final int FAULT_DEEP = 7;

        static final int MASTER = 0;
        static final int LESSON = 1;
        static final int GIVES = 2;
        static final int TAKES = 3;
        static final int COSTS = 4;
        static final int BY = 5;
        static final int NEEDS = 6;
        static final int CHILD = 7;
        static final int GIFT = 8;
        static final int PURSE = 9;
        static final int SOUNDS = 10;
        static final int LEARN = 11;
        static final int LOSE = 12;
        static final int FATE = 13;
        static final int REST = 14;
        static final int PAY = 15;
        static final int WHEN = 16;
        static final int LONG = 17;
        static final int SAYS = 18;
        static final int KNOWS = 19;
        static final int LOOP = 20;
        static final int END = 21;
        static final int STOP = 22;
        static final int RESERVED = 23;
        static final String WORDS =
            "master lesson gives takes costs by needs child gift purse sounds learn lose fate rest pay when long says knows loop end stop ";
        static final int LONGEST_NAME = 8;
        static final int LONGEST_NUMBER = 4;

        final byte[] tape = new byte[LONGEST_TEXT];
        final long[] reserved = new long[RESERVED];
        int fed;
        int end;
        int at;
        int kind;
        int start;
        long value;
        int word;
        int wrong;
        int wrongAt;

        Reader() {
            int which = 0;
            long packed = 0L;
            for (int i = 0; i < WORDS.length() && which < RESERVED; i++) {
                char c = WORDS.charAt(i);
                if (c == ' ') {
                    reserved[which] = packed;
                    which++;
                    packed = 0L;
                } else {
                    packed = packed * 32L + (c - 'a' + 1);
                }
            }
        }

        void takeIn(int four) {
            for (int shift = 24; shift >= 0 && fed < LONGEST_TEXT; shift -= 8) {
                tape[fed] = (byte) (four >> shift);
                fed++;
            }
        }

        void begin(int n) {
            end = n;
            at = 0;
            wrong = 0;
            wrongAt = NONE;
            advance();
        }

        void advance() {
            while (at < end && (tape[at] == ' ' || tape[at] == '\n')) {
                at++;
            }
            start = at;
            value = 0L;
            word = NONE;
            if (at >= end) {
                kind = AT_END;
            } else if (tape[at] >= 'a' && tape[at] <= 'z') {
                advanceWord();
            } else if (tape[at] >= '0' && tape[at] <= '9') {
                advanceNumber();
            } else if (tape[at] == ';' || tape[at] == '<' || tape[at] == '>' || tape[at] == '=') {
                kind = SIGN;
                value = tape[at];
                at++;
            } else {
                kind = NO_TOKEN;
            }
        }

        /** A WORD's value has 5 bits a letter, so that two NAMES are compared as two numbers. */
        private void advanceWord() {
            while (at < end && tape[at] >= 'a' && tape[at] <= 'z') {
                if (at - start < LONGEST_NAME) {
                    value = value * 32L + (tape[at] - 'a' + 1);
                }
                at++;
            }
            kind = WORD;
            if (at - start > LONGEST_NAME) {
                return;
            }
            for (int w = 0; w < RESERVED; w++) {
                if (reserved[w] == value) {
                    word = w;
                }
            }
        }

        private void advanceNumber() {
            while (at < end && tape[at] >= '0' && tape[at] <= '9') {
                if (at - start < LONGEST_NUMBER) {
                    value = value * 10L + (tape[at] - '0');
                }
                at++;
            }
            kind = at - start > LONGEST_NUMBER ? NO_TOKEN : NUMBER;
        }

        boolean goesOn() {
            return wrong == 0 && kind != AT_END;
        }

        /** Only the first FAULT counts, so those that follow from it change nothing. */
        void blame(int what) {
            if (wrong == 0) {
                wrong = what;
                wrongAt = start;
            }
        }

        void blameMisfit() {
            blame(kind == NO_TOKEN ? FAULT_TOKEN : FAULT_PLACE);
        }

        boolean isWord(int which) {
            return wrong == 0 && kind == WORD && word == which;
        }

        boolean isSign(char which) {
            return wrong == 0 && kind == SIGN && value == which;
        }

        void passWord(int which) {
            if (isWord(which)) {
                advance();
            } else {
                blameMisfit();
            }
        }

        void passSign(char which) {
            if (isSign(which)) {
                advance();
            } else {
                blameMisfit();
            }
        }

        int passNumber(int least, int most) {
            if (wrong != 0 || kind != NUMBER) {
                blameMisfit();
                return least;
            }
            if (value < least || value > most) {
                blame(FAULT_NUMBER);
                return least;
            }
            int number = (int) value;
            advance();
            return number;
        }

        int passLetter() {
            if (wrong != 0 || kind != WORD || at - start != 1) {
                blameMisfit();
                return 0;
            }
            int letter = (int) value;
            advance();
            return letter;
        }

        char passCompares() {
            if (isSign('<') || isSign('>') || isSign('=')) {
                char sign = (char) value;
                advance();
                return sign;
            }
            blameMisfit();
            return '=';
        }

        /** The NAME that stands here is not passed yet: what is wrong with it must be told at its place. */
        long seeName() {
            if (wrong == 0 && kind == WORD && word == NONE && at - start <= LONGEST_NAME) {
                return value;
            }
            blameMisfit();
            return 0L;
        }

        /** Passes the NAME that was found to be number 'which' of its things, if it is one. */
        int passFound(int which) {
            if (which == NONE) {
                blame(FAULT_NAME);
            }
            if (wrong != 0) {
                return 0;
            }
            advance();
            return which;
        }
    }

    private static final class Lesson {
        long name;
        int letter;
        boolean vowel;
        int days;
        int costs;
        int master;
        int needs;

        /** Told once, as the LETTER comes: names are said far more often than LESSONS are told. */
        void give(int newLetter) {
            letter = newLetter;
            vowel = letter == 1 || letter == 5 || letter == 9 || letter == 15 || letter == 21;
        }

        void copyFrom(Lesson other) {
            name = other.name;
            letter = other.letter;
            vowel = other.vowel;
            days = other.days;
            costs = other.costs;
            master = other.master;
            needs = other.needs;
        }
    }

    /** A CHILD: its NAME is kept as the LESSONS that gave it. */
    private static final class Child {
        final int[] learnt = new int[MOST_LESSONS];
        long name;
        int gift;
        int purse;
        int clock;
        int known;
        int length;

        void begin(long newName) {
            name = newName;
            clock = 0;
            known = 0;
            length = 0;
        }

        void copyFrom(Child other) {
            name = other.name;
            gift = other.gift;
            purse = other.purse;
            clock = other.clock;
            known = other.known;
            length = other.length;
            System.arraycopy(other.learnt, 0, learnt, 0, MOST_LESSONS);
        }

        boolean hasPlace(int place) {
            return place >= 0 && place < length;
        }

        boolean earn(int much) {
            if (purse + much > FULLEST_PURSE) {
                return false;
            }
            purse += much;
            return true;
        }

        int forget(int place) {
            int gone = learnt[place];
            length--;
            for (int p = place; p < length; p++) {
                learnt[p] = learnt[p + 1];
            }
            known &= ~(1 << gone);
            return gone;
        }
    }

    /** A NAME as it is said aloud: of each LETTER it matters alone whether it is one of a, e, i, o, u. */
    private static final class Voice {
        final boolean[] vowels = new boolean[MOST_LESSONS];
        int length;

        /** The NAME of a CHILD without the LETTER at a place, or whole, if that is NONE. */
        void spell(School s, Child c, int without) {
            length = 0;
            for (int p = 0; p < c.length; p++) {
                if (p != without) {
                    vowels[length] = s.lessonRow[c.learnt[p]].vowel;
                    length++;
                }
            }
        }

        void add(boolean vowel) {
            if (length < MOST_LESSONS) {
                vowels[length] = vowel;
                length++;
            }
        }

        /** The first place at which more than so many stand side by side. */
        int stumble(int sounds) {
            int run = 0;
            for (int p = 0; p < length; p++) {
                run = p > 0 && vowels[p] == vowels[p - 1] ? run + 1 : 1;
                if (run > sounds) {
                    return p;
                }
            }
            return NONE;
        }

        /** A row that is lost whole would join its neighbours, so it is best to cut each to what may stand. */
        int tooMany(int sounds) {
            int run = 0;
            int found = 0;
            for (int p = 0; p < length; p++) {
                run = p > 0 && vowels[p] == vowels[p - 1] ? run + 1 : 1;
                if (run > sounds) {
                    found++;
                }
            }
            return found;
        }
    }

    /** What a text told of MASTERS, LESSONS, CHILDREN, and what became of them. */
    private static final class School {
        final long[] masterNames = new long[MOST_MASTERS];
        final Lesson[] lessonRow = new Lesson[MOST_LESSONS];
        final Child[] childRow = new Child[MOST_CHILDREN];
        final Voice voice = new Voice();
        Age age = new Age();
        int masters;
        int lessons;
        int children;
        int sounds = SOUNDS_UNTOLD;
        boolean soundsTold;

        School() {
            for (int l = 0; l < MOST_LESSONS; l++) {
                lessonRow[l] = new Lesson();
            }
            for (int c = 0; c < MOST_CHILDREN; c++) {
                childRow[c] = new Child();
            }
        }

        /** MASTERS' NAMES, and whether SOUNDS are told, matter only while a text is read, so they stay behind. */
        void copyFrom(School other) {
            for (int l = 0; l < other.lessons; l++) {
                lessonRow[l].copyFrom(other.lessonRow[l]);
            }
            for (int c = 0; c < other.children; c++) {
                childRow[c].copyFrom(other.childRow[c]);
            }
            age.copyFrom(other.age);
            masters = other.masters;
            lessons = other.lessons;
            children = other.children;
            sounds = other.sounds;
        }

        // -- reading

        void readText(Reader r) {
            masters = 0;
            lessons = 0;
            children = 0;
            sounds = SOUNDS_UNTOLD;
            soundsTold = false;
            age.there = false;
            for (int part = 0; part < LONGEST_TEXT && r.goesOn(); part++) {
                if (r.isWord(Reader.MASTER)) {
                    readMaster(r);
                } else if (r.isWord(Reader.LESSON)) {
                    readLesson(r);
                } else if (r.isWord(Reader.CHILD)) {
                    readChild(r);
                } else if (r.isWord(Reader.SOUNDS)) {
                    readSounds(r);
                } else {
                    r.blameMisfit();
                }
                r.passSign(';');
            }
        }

        private void readMaster(Reader r) {
            if (masters >= MOST_MASTERS) {
                r.blame(Reader.FAULT_MANY);
                return;
            }
            r.advance();
            masterNames[masters] = readNewName(r);
            masters++;
        }

        private void readLesson(Reader r) {
            if (lessons >= MOST_LESSONS) {
                r.blame(Reader.FAULT_MANY);
                return;
            }
            r.advance();
            Lesson l = lessonRow[lessons];
            l.name = readNewName(r);
            r.passWord(Reader.GIVES);
            l.give(r.passLetter());
            r.passWord(Reader.TAKES);
            l.days = r.passNumber(1, 30);
            l.costs = readPerhaps(r, Reader.COSTS, 99);
            l.master = NONE;
            if (r.isWord(Reader.BY)) {
                r.advance();
                l.master = r.passFound(findMaster(r.seeName()));
            }
            l.needs = r.isWord(Reader.NEEDS) ? readNeeds(r) : 0;
            // Counted last: a LESSON is not told ahead of itself.
            lessons++;
        }

        private int readNeeds(Reader r) {
            r.advance();
            int needs = 0;
            for (int named = 0; named <= MOST_LESSONS && r.wrong == 0; named++) {
                int need = findLesson(r.seeName());
                if (need != NONE && (needs & 1 << need) != 0) {
                    r.blame(Reader.FAULT_TWICE);
                }
                needs |= 1 << r.passFound(need);
                if (r.isSign(';')) {
                    break;
                }
            }
            return needs;
        }

        private void readChild(Reader r) {
            if (children >= MOST_CHILDREN) {
                r.blame(Reader.FAULT_MANY);
                return;
            }
            r.advance();
            Child c = childRow[children];
            c.begin(readNewName(r));
            c.gift = readPerhaps(r, Reader.GIFT, 9);
            c.purse = readPerhaps(r, Reader.PURSE, 999);
            children++;
        }

        private void readSounds(Reader r) {
            if (soundsTold) {
                r.blame(Reader.FAULT_TWICE);
                return;
            }
            r.advance();
            sounds = r.passNumber(1, 9);
            soundsTold = true;
        }

        private static int readPerhaps(Reader r, int which, int most) {
            if (!r.isWord(which)) {
                return 0;
            }
            r.advance();
            return r.passNumber(0, most);
        }

        private long readNewName(Reader r) {
            long name = r.seeName();
            if (r.wrong != 0) {
                return name;
            }
            if (findMaster(name) != NONE || findLesson(name) != NONE || findChild(name) != NONE) {
                r.blame(Reader.FAULT_NAME);
                return name;
            }
            r.advance();
            return name;
        }

        int findMaster(long name) {
            for (int m = 0; m < masters; m++) {
                if (masterNames[m] == name) {
                    return m;
                }
            }
            return NONE;
        }

        int findLesson(long name) {
            for (int l = 0; l < lessons; l++) {
                if (lessonRow[l].name == name) {
                    return l;
                }
            }
            return NONE;
        }

        int findChild(long name) {
            for (int c = 0; c < children; c++) {
                if (childRow[c].name == name) {
                    return c;
                }
            }
            return NONE;
        }

        // -- asking

        boolean hasMaster(int m) {
            return m >= 0 && m < masters;
        }

        boolean hasLesson(long l) {
            return l >= 0L && l < lessons;
        }

        boolean hasChild(int c) {
            return c >= 0 && c < children;
        }

        boolean hasAllLessons(Tray t, int howMany) {
            for (int p = 0; p < howMany; p++) {
                if (!hasLesson(t.numbers[p])) {
                    return false;
                }
            }
            return true;
        }

        int letterAt(Child c, int place) {
            return lessonRow[c.learnt[place]].letter;
        }

        /** Whether who KNOWS just this set can learn a LESSON, money not minded. */
        boolean lets(int known, int l) {
            return (known & 1 << l) == 0 && (lessonRow[l].needs & ~known) == 0;
        }

        boolean canPay(Child c, int l) {
            return c.purse >= lessonRow[l].costs;
        }

        int daysFor(Child c, int l) {
            int days = lessonRow[l].days - c.gift;
            return days < 1 ? 1 : days;
        }

        int readySet(Child c, boolean minded) {
            int set = 0;
            for (int l = 0; l < lessons; l++) {
                if (lets(c.known, l) && (!minded || canPay(c, l))) {
                    set |= 1 << l;
                }
            }
            return set;
        }

        void teach(Child c, int l) {
            if (c.length >= MOST_LESSONS) {
                return;
            }
            c.learnt[c.length] = l;
            c.length++;
            c.known |= 1 << l;
            c.clock += daysFor(c, l);
            c.purse -= lessonRow[l].costs;
        }

        int choose(Child c) {
            int best = NONE;
            boolean bestSaid = false;
            for (int l = 0; l < lessons; l++) {
                if (!lets(c.known, l) || !canPay(c, l)) {
                    continue;
                }
                voice.spell(this, c, NONE);
                voice.add(lessonRow[l].vowel);
                boolean said = voice.stumble(sounds) == NONE;
                boolean better = best == NONE || said && !bestSaid
                    || said == bestSaid && daysFor(c, l) < daysFor(c, best);
                if (better) {
                    best = l;
                    bestSaid = said;
                }
            }
            return best;
        }

        boolean isSaid(Child c, int without) {
            voice.spell(this, c, without);
            return voice.length > 0 && voice.stumble(sounds) == NONE;
        }

        int weakPlace(Child c) {
            if (!isSaid(c, NONE)) {
                return NONE;
            }
            for (int p = 0; p < c.length; p++) {
                if (!isSaid(c, p)) {
                    return p;
                }
            }
            return NONE;
        }

        int sameAtEnd(Child a, Child b) {
            int most = Math.min(a.length, b.length);
            for (int same = 0; same < most; same++) {
                if (letterAt(a, a.length - 1 - same) != letterAt(b, b.length - 1 - same)) {
                    return same;
                }
            }
            return most;
        }

        int unlikePlace(Child a, Child b) {
            int most = Math.min(a.length, b.length);
            for (int p = 0; p < most; p++) {
                if (letterAt(a, p) != letterAt(b, p)) {
                    return p;
                }
            }
            return a.length == b.length ? NONE : most;
        }

        /** The first place of a row of LESSONS that can't be, learnt from a set on; all numbers must be LESSONS. */
        int stopOfLife(Tray t, int howMany, int from) {
            int known = from;
            for (int p = 0; p < howMany; p++) {
                int l = (int) t.numbers[p];
                if (!lets(known, l)) {
                    return p;
                }
                known |= 1 << l;
            }
            return NONE;
        }

        /** NEEDS are told ahead, so going down once finds those by others, too. */
        int allNeeds(int lesson) {
            int set = lessonRow[lesson].needs;
            for (int l = lesson - 1; l >= 0; l--) {
                if ((set & 1 << l) != 0) {
                    set |= lessonRow[l].needs;
                }
            }
            return set;
        }

        int needing(int lesson) {
            int found = 0;
            for (int l = 0; l < lessons; l++) {
                if ((allNeeds(l) & 1 << lesson) != 0) {
                    found++;
                }
            }
            return found;
        }
    }

    /** The STEPS of an AGE; a when's kind is that of its TEST. */
    private static final class Age {
        final int[] kinds = new int[MOST_STEPS];
        final int[] children = new int[MOST_STEPS];
        final int[] numbers = new int[MOST_STEPS];
        final int[] signs = new int[MOST_STEPS];
        final int[] next = new int[MOST_STEPS];
        final int[] open = new int[DEEPEST];
        boolean there;
        int steps;
        int depth;

        void copyFrom(Age other) {
            System.arraycopy(other.kinds, 0, kinds, 0, MOST_STEPS);
            System.arraycopy(other.children, 0, children, 0, MOST_STEPS);
            System.arraycopy(other.numbers, 0, numbers, 0, MOST_STEPS);
            System.arraycopy(other.signs, 0, signs, 0, MOST_STEPS);
            System.arraycopy(other.next, 0, next, 0, MOST_STEPS);
            there = other.there;
            steps = other.steps;
        }

        void readText(Reader r, School s) {
            there = true;
            steps = 0;
            depth = 0;
            for (int part = 0; part < LONGEST_AGE && r.goesOn(); part++) {
                if (r.isWord(Reader.END)) {
                    closeBlock(r);
                } else {
                    readStep(r, s);
                }
                r.passSign(';');
            }
            if (depth > 0) {
                r.blameMisfit();
            }
        }

        private void closeBlock(Reader r) {
            if (depth <= 0) {
                r.blameMisfit();
                return;
            }
            depth--;
            next[open[depth]] = steps;
            r.advance();
        }

        private void readStep(Reader r, School s) {
            int kind = r.word;
            if (r.kind != Reader.WORD || !isStepWord(kind)) {
                r.blameMisfit();
                return;
            }
            if (steps >= MOST_STEPS) {
                r.blame(Reader.FAULT_MANY);
                return;
            }
            boolean block = kind == Reader.WHEN || kind == Reader.LOOP;
            if (block && depth >= DEEPEST) {
                r.blame(Reader.FAULT_DEEP);
                return;
            }
            int step = steps;
            steps++;
            kinds[step] = kind;
            next[step] = steps;
            if (block) {
                open[depth] = step;
                depth++;
            }
            r.advance();
            if (kind == Reader.WHEN) {
                readTest(r, s, step);
            } else {
                readDeed(r, s, step);
            }
        }

        private static boolean isStepWord(int word) {
            return word >= Reader.LEARN && word <= Reader.WHEN || word == Reader.LOOP || word == Reader.STOP;
        }

        private void readDeed(Reader r, School s, int step) {
            int kind = kinds[step];
            if (kind == Reader.STOP) {
                return;
            }
            if (kind == Reader.LOOP) {
                numbers[step] = r.passNumber(1, MOST_AT_ONCE);
                return;
            }
            children[step] = r.passFound(s.findChild(r.seeName()));
            if (kind == Reader.LEARN) {
                numbers[step] = r.passFound(s.findLesson(r.seeName()));
            } else if (kind == Reader.LOSE) {
                numbers[step] = r.passNumber(0, MOST_LESSONS - 1);
            } else if (kind == Reader.REST || kind == Reader.PAY) {
                numbers[step] = r.passNumber(1, MOST_AT_ONCE);
            }
        }

        private void readTest(Reader r, School s, int step) {
            if (!r.isWord(Reader.LONG) && !r.isWord(Reader.SAYS) && !r.isWord(Reader.KNOWS)) {
                r.blameMisfit();
                return;
            }
            kinds[step] = r.word;
            r.advance();
            children[step] = r.passFound(s.findChild(r.seeName()));
            if (kinds[step] == Reader.LONG) {
                signs[step] = r.passCompares();
                numbers[step] = r.passNumber(0, MOST_LESSONS);
            } else if (kinds[step] == Reader.KNOWS) {
                numbers[step] = r.passFound(s.findLesson(r.seeName()));
            }
        }
    }

    /** An AGE as it is LIVED, and what is told of it. */
    private static final class Living {
        boolean there;
        int done;
        int missed;
        int learnt;
        int lost;
        boolean cutOff;
        private boolean over;
        private int drawn;

        void run(School s, int seed) {
            there = true;
            done = 0;
            missed = 0;
            learnt = 0;
            lost = 0;
            cutOff = false;
            over = false;
            drawn = seed;
            walk(s, 0, s.age.steps, 0);
        }

        private void walk(School s, int from, int to, int depth) {
            if (depth > DEEPEST) {
                return;
            }
            for (int at = from; at < to && !over; at = s.age.next[at]) {
                if (done >= MOST_DONE) {
                    cutOff = true;
                    over = true;
                    return;
                }
                done++;
                doStep(s, at, depth);
            }
        }

        private void doStep(School s, int at, int depth) {
            Age a = s.age;
            Child c = s.childRow[a.children[at]];
            int number = a.numbers[at];
            switch (a.kinds[at]) {
                case Reader.LEARN: tryLearn(s, c, number); break;
                case Reader.LOSE: tryLose(c, number); break;
                case Reader.FATE: meetFate(s, c); break;
                case Reader.REST: c.clock += number; break;
                case Reader.PAY: missed += c.earn(number) ? 0 : 1; break;
                case Reader.LOOP:
                    for (int turn = 0; turn < number && !over; turn++) {
                        walk(s, at + 1, a.next[at], depth + 1);
                    }
                    break;
                case Reader.STOP: over = true; break;
                default:
                    if (holds(s, c, at)) {
                        walk(s, at + 1, a.next[at], depth + 1);
                    }
                    break;
            }
        }

        private static boolean holds(School s, Child c, int at) {
            int number = s.age.numbers[at];
            switch (s.age.kinds[at]) {
                case Reader.LONG: return compares(c.length, s.age.signs[at], number);
                case Reader.SAYS: return s.isSaid(c, NONE);
                default: return (c.known & 1 << number) != 0;
            }
        }

        private static boolean compares(int length, int sign, int number) {
            if (sign == '<') {
                return length < number;
            }
            return sign == '>' ? length > number : length == number;
        }

        private void tryLearn(School s, Child c, int l) {
            if (s.hasLesson(l) && s.lets(c.known, l) && s.canPay(c, l)) {
                s.teach(c, l);
                learnt++;
            } else {
                missed++;
            }
        }

        private void tryLose(Child c, int place) {
            if (c.hasPlace(place)) {
                c.forget(place);
                lost++;
            } else {
                missed++;
            }
        }

        private void meetFate(School s, Child c) {
            int what = draw(16);
            if (what < 8) {
                tryLearn(s, c, s.choose(c));
            } else if (what < 14) {
                int ready = s.readySet(c, true);
                tryLearn(s, c, memberOf(ready, draw(Integer.bitCount(ready))));
            } else {
                tryLose(c, draw(c.length));
            }
        }

        /** By nothing nothing is drawn: the draws behind it stay as they would be. */
        private int draw(int by) {
            if (by <= 0) {
                return NONE;
            }
            drawn = (drawn * 2887 + 10477) % 65536;
            return drawn / 8 % by;
        }

        private static int memberOf(int set, int which) {
            int left = which;
            for (int l = 0; l < MOST_LESSONS && left >= 0; l++) {
                if ((set & 1 << l) != 0) {
                    if (left == 0) {
                        return l;
                    }
                    left--;
                }
            }
            return NONE;
        }
    }

    /** WAYS and ORDERS, counted over the sets of LESSONS that are KNOWN on the way. */
    private static final class Search {
        final int[] told = new int[MOST_LESSONS];
        final int[] way = new int[MOST_LESSONS];
        int length;
        int wayLength;
        int furthest;
        private long[] sums = new long[16];

        boolean hearTray(Tray t, int howMany) {
            for (int p = 0; p < howMany; p++) {
                long v = t.numbers[p];
                if (v < 1L || v > LAST_LETTER) {
                    return false;
                }
                told[p] = (int) v;
            }
            length = howMany;
            return true;
        }

        void hearName(School s, Child c) {
            for (int p = 0; p < c.length; p++) {
                told[p] = s.letterAt(c, p);
            }
            length = c.length;
        }

        void hearAny(int howMany) {
            for (int p = 0; p < howMany; p++) {
                told[p] = ANY_LETTER;
            }
            length = howMany;
        }

        /** The row grows as schools do and is used again, so that many calls make few rows. */
        private void clearSums(int size, long with) {
            if (sums.length < size) {
                sums = new long[size];
            }
            for (int i = 0; i < size; i++) {
                sums[i] = with;
            }
        }

        /** Whether a LESSON can be the next one behind a set, whose size tells the place. */
        private boolean comesNext(School s, int set, int l) {
            int place = Integer.bitCount(set);
            if (place >= length || !s.lets(set, l)) {
                return false;
            }
            return told[place] == ANY_LETTER || told[place] == s.lessonRow[l].letter;
        }

        long count(School s) {
            int sets = 1 << s.lessons;
            clearSums(sets, 0L);
            sums[0] = 1L;
            furthest = 0;
            long all = 0L;
            for (int set = 0; set < sets; set++) {
                if (sums[set] == 0L) {
                    continue;
                }
                int place = Integer.bitCount(set);
                furthest = Math.max(furthest, place);
                if (place == length) {
                    all += sums[set];
                }
                for (int l = 0; l < s.lessons; l++) {
                    if (comesNext(s, set, l)) {
                        sums[set | 1 << l] += sums[set];
                    }
                }
            }
            return all;
        }

        int least(School s, boolean byCosts) {
            int sets = 1 << s.lessons;
            clearSums(sets, NONE);
            sums[0] = 0L;
            long best = NONE;
            for (int set = 0; set < sets; set++) {
                if (sums[set] == NONE) {
                    continue;
                }
                if (Integer.bitCount(set) == length) {
                    best = lesser(best, sums[set]);
                }
                for (int l = 0; l < s.lessons; l++) {
                    if (comesNext(s, set, l)) {
                        long more = byCosts ? s.lessonRow[l].costs : s.lessonRow[l].days;
                        sums[set | 1 << l] = lesser(sums[set | 1 << l], sums[set] + more);
                    }
                }
            }
            return (int) best;
        }

        private static long lesser(long a, long b) {
            return a == NONE ? b : Math.min(a, b);
        }

        boolean findFirst(School s) {
            int sets = 1 << s.lessons;
            clearSums(sets, 0L);
            for (int set = sets - 1; set >= 0; set--) {
                boolean ends = Integer.bitCount(set) == length || goingOn(s, set) != NONE;
                sums[set] = ends ? 1L : 0L;
            }
            if (sums[0] == 0L) {
                return false;
            }
            int set = 0;
            for (int p = 0; p < length; p++) {
                way[p] = goingOn(s, set);
                set |= 1 << way[p];
            }
            wayLength = length;
            return true;
        }

        /** The first LESSON behind a set from which the end can still be come to. */
        private int goingOn(School s, int set) {
            for (int l = 0; l < s.lessons; l++) {
                if (comesNext(s, set, l) && sums[set | 1 << l] != 0L) {
                    return l;
                }
            }
            return NONE;
        }

        /** Beside the set it matters of which kind the last LETTERS are, and how many: a state for each. */
        long countSaid(School s) {
            int most = Math.min(s.sounds, length);
            int states = 2 * most;
            int sets = 1 << s.lessons;
            clearSums(sets * states, 0L);
            long all = 0L;
            for (int set = 0; set < sets; set++) {
                for (int state = 0; state < states && Integer.bitCount(set) == length; state++) {
                    all += sums[set * states + state];
                }
                for (int l = 0; l < s.lessons; l++) {
                    if (comesNext(s, set, l)) {
                        saySo(set, set | 1 << l, s.lessonRow[l].vowel ? most : 0, most);
                    }
                }
            }
            return all;
        }

        /** The states of one kind begin at a number; behind the last of them the NAME can't be said. */
        private void saySo(int from, int to, int begin, int most) {
            if (from == 0) {
                sums[to * 2 * most + begin] = 1L;
                return;
            }
            for (int state = 0; state < 2 * most; state++) {
                boolean same = state >= begin && state < begin + most;
                int next = same ? state + 1 : begin;
                if (next < begin + most) {
                    sums[to * 2 * most + next] += sums[from * 2 * most + state];
                }
            }
        }
    }

    /** The DAYS of all CHILDREN, kept in turn by the MASTERS. */
    private static final class Plan {
        static final int MOST_DAYS = MOST_CHILDREN * MOST_LESSONS * 30;
        final int[] begun = new int[MOST_CHILDREN];
        final int[] waits = new int[MOST_CHILDREN];
        final int[][] days = new int[MOST_CHILDREN][MOST_LESSONS];
        int done;
        private final int[] free = new int[MOST_CHILDREN];
        private final int[] masterFree = new int[MOST_MASTERS];
        private int children;

        boolean hasChild(int c) {
            return c >= 0 && c < children;
        }

        void make(School s, Tray[] trays) {
            children = s.children;
            done = 0;
            int left = 0;
            for (int c = 0; c < children; c++) {
                begun[c] = 0;
                waits[c] = 0;
                free[c] = 0;
                left += trays[c].there ? trays[c].length : 0;
            }
            for (int m = 0; m < MOST_MASTERS; m++) {
                masterFree[m] = 0;
            }
            // Somebody learns on every DAY until all is done, so all DAYS together are enough.
            for (int day = 0; day <= MOST_DAYS && left > 0; day++) {
                for (int c = 0; c < children; c++) {
                    boolean more = trays[c].there && begun[c] < trays[c].length && free[c] <= day;
                    if (more && tryBegin(s, c, (int) trays[c].numbers[begun[c]], day)) {
                        left--;
                    }
                }
            }
        }

        private boolean tryBegin(School s, int c, int lesson, int day) {
            int master = s.lessonRow[lesson].master;
            if (master != NONE && masterFree[master] > day) {
                return false;
            }
            int over = day + s.daysFor(s.childRow[c], lesson);
            waits[c] += day - free[c];
            days[c][begun[c]] = day;
            begun[c]++;
            free[c] = over;
            done = Math.max(done, over);
            if (master != NONE) {
                masterFree[master] = over;
            }
            return true;
        }
    }
}
