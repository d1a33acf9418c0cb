/**
 * Whose each thing is behind each making, by laws that are told by letters.
 * The document of the project says what every call answers; README.md says how to use the class.
 *
 * <p>Everything an object needs is made by its constructor: no call makes a new object, so that a
 * long run of calls stays within a small room.
 */
public final class MarbleLaw {
    public static final int BAD = -1, FULL = -2, FINDING = -3, STATE = -4, SPENT = -6, NONE = -9;

    private static final int NOTHING = 1, BEYOND = 2, UNLIKE = 3, NOUGHT = 4, SIZE = 5;

    private static final int ROWS = 6, TEXTS = 4, PLACES = 40, PERSONS = 6, SORTS = 10;
    private static final int STUFFS = 16, MAKINGS = 12, LAWS = 4, HEAPS = 4, LAYERS = 20;
    private static final int ALL_ANSWERS = 16, KNEW_WAYS = 6, RULES = 3, COUNTS = 7;
    private static final int MOST = 99, MOST_DEBT = 999, MOST_DRAWN = 999, FINEST = 10000;

    private static final int MISSING = -1;
    private static final int BLANK = 32;

    /** What is held of a STUFF, in the order of about(). */
    private static final int SORT = 0, WORTH = 1, AMOUNT = 2, OWNER = 3, DEBT = 4, OF_STUFF = 5;

    /** What is held of a MAKING, in the order of told(). */
    private static final int KIND = 0, CHIEF = 1, AIM = 2, MAKER = 3, WORK = 4, KNEW = 5, PARTED = 6,
            OF_MAKING = 7;

    private static final int NOTE = 0, FORM = 1, JOIN = 2, MIX = 3, WRITE = 4, BUILD = 5, GROW = 6,
            KINDS = 7;

    private final Row[] rows = new Row[ROWS];
    private final Row[] texts = new Row[TEXTS];
    private final Tale tale = new Tale();
    private final LawReader reader = new LawReader();
    private final int[] lawNumbers = new int[LAWS];
    private final Course course = new Course(tale);
    private final Course otherCourse = new Course(tale);
    private final Heap[] heaps = new Heap[HEAPS];
    private final int[] findingCounts = new int[SIZE + 1];
    private int latestFinding = 0;
    private int askedNumber = 0;
    private long upperNumber = 0;
    private long lowerNumber = 1;

    public MarbleLaw() {
        for (int r = 0; r < ROWS; r++) {
            rows[r] = new Row();
        }
        for (int t = 0; t < TEXTS; t++) {
            texts[t] = new Row();
        }
        for (int l = 0; l < LAWS; l++) {
            lawNumbers[l] = MISSING;
        }
        for (int h = 0; h < HEAPS; h++) {
            heaps[h] = new Heap();
        }
    }

    // ---- 1 rows, texts, stuffs, makings

    public int row(int r, int n) {
        return begin(rows, r, n, 0);
    }

    public int lay(int r, int i, int v) {
        int refusal = refusalOfPlace(rows, r, i);
        if (refusal != 0) {
            return refusal;
        }
        askedNumber = rows[r].places[i];
        rows[r].places[i] = v;
        return 1;
    }

    public int at(int r, int i) {
        int refusal = refusalOfPlace(rows, r, i);
        if (refusal != 0) {
            return refusal;
        }
        askedNumber = rows[r].places[i];
        return 1;
    }

    public int tear(int r) {
        if (!within(r, ROWS)) {
            return BAD;
        }
        if (rows[r].isMissing()) {
            return found(NOTHING);
        }
        rows[r].size = MISSING;
        return 1;
    }

    public int copy(int r, int i, int to, int j, int n) {
        if (!within(r, ROWS) || !within(to, ROWS)) {
            return BAD;
        }
        if (n < 0) {
            return found(SIZE);
        }
        Row source = rows[r];
        Row target = rows[to];
        if (source.isMissing() || target.isMissing()) {
            return found(NOTHING);
        }
        if (!source.hasFrom(i, n) || !target.hasFrom(j, n)) {
            return found(BEYOND);
        }
        System.arraycopy(source.places, i, target.places, j, n);
        return 1;
    }

    public int mean(int r) {
        if (!within(r, ROWS)) {
            return BAD;
        }
        Row row = rows[r];
        if (row.isMissing()) {
            return found(NOTHING);
        }
        if (row.size == 0) {
            return found(NOUGHT);
        }
        askedNumber = (int) (row.sum() / row.size);
        return 1;
    }

    public int text(int t, int n) {
        return begin(texts, t, n, BLANK);
    }

    public int put(int t, int i, int v) {
        int refusal = refusalOfPlace(texts, t, i);
        if (refusal != 0) {
            return refusal;
        }
        int before = texts[t].places[i];
        texts[t].places[i] = (byte) v;
        return before + 1000;
    }

    public int stuff(int sort, int worth, int amount, int owner) {
        if (!isStuffAsTold(sort, worth, amount, owner)) {
            return BAD;
        }
        if (tale.stuffs >= STUFFS) {
            return FULL;
        }
        return tale.addStuff(sort, worth, amount, owner);
    }

    public int stuffs(int r) {
        if (!within(r, ROWS)) {
            return BAD;
        }
        Row row = rows[r];
        if (row.isMissing()) {
            return found(NOTHING);
        }
        if (row.size % 4 != 0) {
            return found(SIZE);
        }
        if (row.size / 4 > STUFFS - tale.stuffs) {
            return FULL;
        }
        int[] p = row.places;
        for (int i = 0; i + 3 < row.size; i += 4) {
            if (!isStuffAsTold(p[i], p[i + 1], p[i + 2], p[i + 3])) {
                return found(UNLIKE);
            }
        }
        for (int i = 0; i + 3 < row.size; i += 4) {
            tale.addStuff(p[i], p[i + 1], p[i + 2], p[i + 3]);
        }
        return row.size / 4;
    }

    public int debt(int s, int v) {
        if (!isStuff(s) || v < 0 || v > MOST_DEBT) {
            return BAD;
        }
        int before = tale.ofStuff(s, DEBT);
        tale.setDebt(s, v);
        return before;
    }

    public int making(int kind, int s, int v, int maker, int work, int knew, boolean parted) {
        boolean asDue = within(kind, KINDS) && isStuff(s) && isAim(kind, s, v)
                && within(maker, PERSONS) && isWork(work) && within(knew, KNEW_WAYS);
        if (!asDue) {
            return BAD;
        }
        if (tale.makings >= MAKINGS) {
            return FULL;
        }
        if (kind == MIX && tale.ofStuff(s, SORT) != tale.ofStuff(v, SORT)) {
            return found(UNLIKE);
        }
        return tale.addMaking(kind, s, v, maker, work, knew, parted);
    }

    public int about(int s, int what) {
        if (!isStuff(s) || !within(what, OF_STUFF)) {
            return BAD;
        }
        askedNumber = tale.ofStuff(s, what);
        return 1;
    }

    public int told(int m, int what) {
        if (!isMaking(m) || !within(what, OF_MAKING)) {
            return BAD;
        }
        askedNumber = tale.ofMaking(m, what);
        return 1;
    }

    public int mark(int m, int kind) {
        if (!isMaking(m) || kind < FORM || kind >= KINDS) {
            return BAD;
        }
        int own = tale.ofMaking(m, KIND);
        if (own != kind && !(kind == JOIN && isJoin(own))) {
            return found(UNLIKE);
        }
        if (kind == JOIN) {
            standBehind(m);
            course.meet(m);
            return course.someCame() ? 1 : 0;
        }
        return tale.ofMaking(m, kind == WRITE ? WORK : AIM);
    }

    // ---- 2 laws, whose

    public int fault(int t) {
        if (!within(t, TEXTS)) {
            return BAD;
        }
        if (texts[t].isMissing()) {
            return found(NOTHING);
        }
        return reader.read(texts[t]);
    }

    public int laws(int l, int t) {
        if (!within(l, LAWS) || !within(t, TEXTS)) {
            return BAD;
        }
        if (texts[t].isMissing()) {
            return found(NOTHING);
        }
        if (reader.read(texts[t]) != NONE) {
            return STATE;
        }
        lawNumbers[l] = reader.number();
        return lawNumbers[l];
    }

    public int law(int l) {
        if (!within(l, LAWS)) {
            return BAD;
        }
        if (lawNumbers[l] == MISSING) {
            return found(NOTHING);
        }
        return lawNumbers[l];
    }

    public int inside(int s, int m) {
        if (!isStuff(s) || !isStory(m)) {
            return BAD;
        }
        standBehind(m);
        return course.in[s];
    }

    public int now(int s, int m, int what) {
        if (!isStuff(s) || !isStory(m) || !within(what, 4)) {
            return BAD;
        }
        standBehind(m);
        int thing = course.in[s];
        switch (what) {
            case 0:
                return course.sort[thing];
            case 1:
                return course.worth[thing];
            case 2:
                return course.amount[thing];
            default:
                return course.debts(thing);
        }
    }

    public int whose(int l, int s, int m, int answers, int person) {
        int refusal = refusalOfParts(l, s, m, answers, person);
        if (refusal != 0) {
            return refusal;
        }
        int thing = course.in[s];
        tellFraction(course.part(thing, person), course.lower[thing]);
        return course.hasSome(s, person) ? 1 : 0;
    }

    public int owners(int l, int s, int m, int answers) {
        int refusal = refusalOfParts(l, s, m, answers, 0);
        if (refusal != 0) {
            return refusal;
        }
        int bits = 0;
        for (int p = 0; p < PERSONS; p++) {
            if (course.hasSome(s, p)) {
                bits |= 1 << p;
            }
        }
        return bits;
    }

    public int changes(int l, int s, int answers, int person) {
        int refusal = refusalOfParts(l, s, 0, answers, person);
        if (refusal != 0) {
            return refusal;
        }
        for (int m = 0; m < tale.makings; m++) {
            long partBefore = course.part(course.in[s], person);
            long lowerBefore = course.lower[course.in[s]];
            course.step(m);
            if (course.tooFine) {
                return found(SIZE);
            }
            int thing = course.in[s];
            if (course.part(thing, person) * lowerBefore != partBefore * course.lower[thing]) {
                return m;
            }
        }
        return NONE;
    }

    public int lost(int l, int m, int answers, int person) {
        if (!isMaking(m)) {
            return BAD;
        }
        int refusal = refusalOfParts(l, tale.ofMaking(m, CHIEF), m, answers, person);
        if (refusal != 0) {
            return refusal;
        }
        course.meet(m);
        int thing = course.chief;
        long a = course.chiefWorth;
        long b = course.comerWorth;
        long lowerOfChief = course.lower[thing];
        long lowerOfComer = course.someCame() ? course.lower[course.comer] : 1;
        long hadOfChief = a * course.part(thing, person) * lowerOfComer;
        long hadOfComer = course.someCame() ? b * course.part(course.comer, person) * lowerOfChief : 0;
        course.step(m);
        if (course.tooFine) {
            return found(SIZE);
        }
        long lowerBefore = lowerOfChief * lowerOfComer;
        long has = (a + b) * course.part(thing, person) * lowerBefore;
        tellFraction((hadOfChief + hadOfComer) * course.lower[thing] - has,
                lowerBefore * course.lower[thing]);
        if (upperNumber == 0) {
            return 0;
        }
        return upperNumber > 0 ? 1 : 2;
    }

    public int beside(int l, int other, int answers) {
        if (!within(l, LAWS) || !within(other, LAWS) || !within(answers, ALL_ANSWERS)) {
            return BAD;
        }
        if (lawNumbers[l] == MISSING || lawNumbers[other] == MISSING) {
            return found(NOTHING);
        }
        course.begin(lawNumbers[l], answers);
        otherCourse.begin(lawNumbers[other], answers);
        for (int m = 0; m < tale.makings; m++) {
            course.step(m);
            otherCourse.step(m);
            if (course.tooFine || otherCourse.tooFine) {
                return found(SIZE);
            }
            if (!course.sharesAlike(otherCourse, course.in[tale.ofMaking(m, CHIEF)])) {
                return m;
            }
        }
        return NONE;
    }

    // ---- 3 parted, sure, sly

    public int undo(int made, int m) {
        if (!isStory(m) || !within(made, m)) {
            return BAD;
        }
        if (tale.ofMaking(made, PARTED) == 0) {
            return 0;
        }
        standBehind(made);
        course.meet(made);
        if (!course.someCame()) {
            return 0;
        }
        int saved = course.comerWorth;
        course.go(made, m);
        int thing = course.in[tale.ofMaking(made, CHIEF)];
        for (int later = made + 1; later < m; later++) {
            if (course.namesPartOf(later, thing)) {
                return 0;
            }
        }
        askedNumber = saved - (1 + course.worth[thing] / 10);
        return 1;
    }

    public int sure(int l, int s, int m, int person) {
        int having = answersByWhichHas(l, s, m, person);
        if (having < 0) {
            return having;
        }
        if (having == 0) {
            return 0;
        }
        return having == (1 << ALL_ANSWERS) - 1 ? 2 : 1;
    }

    public int hangs(int l, int s, int m, int person) {
        int having = answersByWhichHas(l, s, m, person);
        if (having < 0) {
            return having;
        }
        int fewest = ALL_ANSWERS - 1;
        for (int questions = 0; questions < ALL_ANSWERS; questions++) {
            if (Integer.bitCount(questions) < Integer.bitCount(fewest) && decide(questions, having)) {
                fewest = questions;
            }
        }
        return fewest;
    }

    public int sly(int l, int s, int person, int work) {
        if (!isWork(work)) {
            return BAD;
        }
        int refusal = refusalOfParts(l, s, tale.makings, 0, person);
        if (refusal != 0) {
            return refusal;
        }
        return course.slyWay(s, person, work);
    }

    public int stop(int l, int s, int person, int work) {
        if (!isWork(work)) {
            return BAD;
        }
        int refusal = refusalOfParts(l, s, tale.makings, 0, person);
        if (refusal != 0) {
            return refusal;
        }
        for (int words = 0; words <= LawReader.WORDS; words++) {
            for (int i = 0; i < LawReader.ALL_LAWS; i++) {
                int number = LawReader.lawInOrder(i);
                if (LawReader.wordsBetween(number, lawNumbers[l]) == words
                        && isStoppedBy(number, s, person, work)) {
                    askedNumber = words;
                    return number;
                }
            }
        }
        return NONE;
    }

    public int inTime(int l, int s, int person) {
        int refusal = refusalOfParts(l, s, tale.makings, 0, person);
        if (refusal != 0) {
            return refusal;
        }
        if (course.hasSome(s, person)) {
            return NONE;
        }
        for (int m = tale.makings - 1; m >= 0; m--) {
            course.begin(lawNumbers[l], 0);
            course.go(0, m);
            course.go(m + 1, tale.makings);
            if (!course.tooFine && course.hasSome(s, person)) {
                return m;
            }
        }
        return NONE;
    }

    // ---- 4 heaps

    public int heap(int h, int person, int amount) {
        if (!within(h, HEAPS) || !within(person, PERSONS) || amount < 1 || amount > MOST) {
            return BAD;
        }
        if (heaps[h].size >= LAYERS) {
            return FULL;
        }
        heaps[h].add(person, amount);
        return heaps[h].size;
    }

    public int draw(int h, int person, int n, int rule) {
        if (!within(h, HEAPS) || !within(person, PERSONS) || n < 1 || n > MOST_DRAWN
                || !within(rule, RULES)) {
            return BAD;
        }
        Heap heap = heaps[h];
        if (n > heap.total()) {
            return found(BEYOND);
        }
        if (rule == 0) {
            heap.drawFromFirst(n);
        } else if (rule == 1) {
            heap.drawByParts(n);
        } else {
            heap.drawFromLast(n, person);
        }
        heap.dropEmpty();
        return heap.size;
    }

    public int left(int h, int person) {
        if (!within(h, HEAPS) || !within(person, PERSONS)) {
            return BAD;
        }
        askedNumber = heaps[h].total();
        return heaps[h].amountOf(person);
    }

    public int layer(int h, int i) {
        if (!within(h, HEAPS)) {
            return BAD;
        }
        if (!within(i, heaps[h].size)) {
            return found(BEYOND);
        }
        return heaps[h].asNumber(i);
    }

    // ---- 5 what is told

    public int asked() {
        return askedNumber;
    }

    public long upper() {
        return upperNumber;
    }

    public long lower() {
        return lowerNumber;
    }

    public int count(int what) {
        if (!within(what, COUNTS)) {
            return BAD;
        }
        return counted(what);
    }

    public int finding() {
        return latestFinding;
    }

    public int findings(int f) {
        if (f < NOTHING || f > SIZE) {
            return BAD;
        }
        return findingCounts[f];
    }

    public long digest() {
        long h = 17;
        for (int what = 0; what < COUNTS; what++) {
            h = 31 * h + counted(what);
        }
        h = tale.addTo(h);
        for (int l = 0; l < LAWS; l++) {
            h = 31 * h + lawNumbers[l];
        }
        for (int i = 0; i < HEAPS; i++) {
            h = heaps[i].addTo(h);
        }
        for (int r = 0; r < ROWS; r++) {
            h = rows[r].addTo(h);
        }
        for (int t = 0; t < TEXTS; t++) {
            h = texts[t].addTo(h);
        }
        return h;
    }

    // ---- what the calls share

    private int found(int f) {
        latestFinding = f;
        findingCounts[f]++;
        return FINDING;
    }

    private static boolean within(int i, int bound) {
        return i >= 0 && i < bound;
    }

    private static boolean isWork(int work) {
        return work >= 0 && work <= MOST;
    }

    private static boolean isJoin(int kind) {
        return kind == JOIN || kind == WRITE || kind == BUILD;
    }

    private static boolean namesTwo(int kind) {
        return kind == JOIN || kind == MIX || kind == BUILD;
    }

    private static boolean isStuffAsTold(int sort, int worth, int amount, int owner) {
        return within(sort, SORTS) && worth >= 1 && worth <= MOST && amount >= 1 && amount <= MOST
                && within(owner, PERSONS);
    }

    private boolean isStuff(int s) {
        return within(s, tale.stuffs);
    }

    private boolean isMaking(int m) {
        return within(m, tale.makings);
    }

    private boolean isStory(int m) {
        return m >= 0 && m <= tale.makings;
    }

    private boolean isAim(int kind, int s, int v) {
        if (kind == FORM) {
            return within(v, SORTS);
        }
        if (kind == GROW) {
            return v >= 1 && v <= MOST;
        }
        return !namesTwo(kind) || (isStuff(v) && v != s);
    }

    /** A ROW or a TEXT is there, with n places as filled: n, or refused. */
    private int begin(Row[] all, int r, int n, int filling) {
        if (!within(r, all.length) || n > PLACES) {
            return BAD;
        }
        if (n < 0) {
            return found(SIZE);
        }
        all[r].begin(n, filling);
        return n;
    }

    /** 0, if place i of a ROW or a TEXT is there. */
    private int refusalOfPlace(Row[] all, int r, int i) {
        if (!within(r, all.length)) {
            return BAD;
        }
        if (all[r].isMissing()) {
            return found(NOTHING);
        }
        return within(i, all[r].size) ? 0 : found(BEYOND);
    }

    /** For what is the same by all LAWS; whether PARTS are too fine is not to be looked at then. */
    private void standBehind(int m) {
        course.begin(LawReader.PLAIN, 0);
        course.go(0, m);
    }

    /** 0, if PARTS are told behind m MAKINGS; the course then stands there. */
    private int refusalOfParts(int l, int s, int m, int answers, int person) {
        if (!within(l, LAWS) || !isStuff(s) || !isStory(m) || !within(answers, ALL_ANSWERS)
                || !within(person, PERSONS)) {
            return BAD;
        }
        if (lawNumbers[l] == MISSING) {
            return found(NOTHING);
        }
        course.begin(lawNumbers[l], answers);
        course.go(0, m);
        return course.tooFine ? found(SIZE) : 0;
    }

    /**
     * Bit a of what is told: by ANSWERS a the PERSON has something. Below 0 it is a refusal: where
     * PARTS are too fine by any ANSWERS, nothing can be said over all of them.
     */
    private int answersByWhichHas(int l, int s, int m, int person) {
        int having = 0;
        for (int answers = 0; answers < ALL_ANSWERS; answers++) {
            int refusal = refusalOfParts(l, s, m, answers, person);
            if (refusal != 0) {
                return refusal;
            }
            if (course.hasSome(s, person)) {
                having |= 1 << answers;
            }
        }
        return having;
    }

    /** Alike in the questions are two ANSWERS that tell the same when all else is told no. */
    private static boolean decide(int questions, int having) {
        for (int answers = 0; answers < ALL_ANSWERS; answers++) {
            if ((having >> answers & 1) != (having >> (answers & questions) & 1)) {
                return false;
            }
        }
        return true;
    }

    private boolean isStoppedBy(int number, int s, int person, int work) {
        course.begin(number, 0);
        course.go(0, tale.makings);
        return !course.tooFine && course.slyWay(s, person, work) == NONE;
    }

    private void tellFraction(long up, long low) {
        long g = divisorOf(Math.abs(up), low);
        upperNumber = g == 0 ? 0 : up / g;
        lowerNumber = g == 0 ? 1 : low / g;
    }

    /**
     * The greatest common divisor of two numbers that are not below 0; 0 of two noughts. A hundred
     * rounds are above what any two longs need.
     */
    private static long divisorOf(long a, long b) {
        long x = a;
        long y = b;
        for (int i = 0; i < 100 && y != 0; i++) {
            long rest = x % y;
            x = y;
            y = rest;
        }
        return x;
    }

    private static int thereOf(Row[] all) {
        int n = 0;
        for (Row row : all) {
            n += row.isMissing() ? 0 : 1;
        }
        return n;
    }

    private int counted(int what) {
        int n = 0;
        switch (what) {
            case 0:
                return thereOf(rows);
            case 1:
                return thereOf(texts);
            case 2:
                return tale.stuffs;
            case 3:
                return tale.makings;
            case 4:
                for (int m = 0; m < tale.makings; m++) {
                    n += isJoin(tale.ofMaking(m, KIND)) ? 1 : 0;
                }
                return n;
            case 5:
                for (int l = 0; l < LAWS; l++) {
                    n += lawNumbers[l] == MISSING ? 0 : 1;
                }
                return n;
            default:
                for (int h = 0; h < HEAPS; h++) {
                    n += heaps[h].size;
                }
                return n;
        }
    }

    /** A ROW, or a TEXT (its bytes held as ints): the first places, as many as its size, are there. */
    private static final class Row {
        final int[] places = new int[PLACES];
        int size = MISSING;

        boolean isMissing() {
            return size == MISSING;
        }

        void begin(int n, int filling) {
            for (int i = 0; i < PLACES; i++) {
                places[i] = filling;
            }
            size = n;
        }

        /** Compares by what is behind i, so that no sum of two big numbers wraps around. */
        boolean hasFrom(int i, int n) {
            return i >= 0 && i <= size && n <= size - i;
        }

        long sum() {
            long sum = 0;
            for (int i = 0; i < size; i++) {
                sum += places[i];
            }
            return sum;
        }

        long addTo(long digest) {
            long h = 31 * digest + size;
            for (int i = 0; i < size; i++) {
                h = 31 * h + places[i];
            }
            return h;
        }
    }

    /** All STUFFS and MAKINGS as they were told, in flat rows: nothing here hangs on LAWS. */
    private static final class Tale {
        private final int[] stuffNumbers = new int[STUFFS * OF_STUFF];
        private final int[] makingNumbers = new int[MAKINGS * OF_MAKING];
        int stuffs = 0;
        int makings = 0;

        int ofStuff(int s, int what) {
            return stuffNumbers[s * OF_STUFF + what];
        }

        int ofMaking(int m, int what) {
            return makingNumbers[m * OF_MAKING + what];
        }

        void setDebt(int s, int v) {
            stuffNumbers[s * OF_STUFF + DEBT] = v;
        }

        int addStuff(int sort, int worth, int amount, int owner) {
            int from = stuffs * OF_STUFF;
            stuffNumbers[from + SORT] = sort;
            stuffNumbers[from + WORTH] = worth;
            stuffNumbers[from + AMOUNT] = amount;
            stuffNumbers[from + OWNER] = owner;
            stuffs++;
            return stuffs - 1;
        }

        int addMaking(int kind, int s, int v, int maker, int work, int knew, boolean parted) {
            int from = makings * OF_MAKING;
            makingNumbers[from + KIND] = kind;
            makingNumbers[from + CHIEF] = s;
            makingNumbers[from + AIM] = kind == NOTE || kind == WRITE ? 0 : v;
            makingNumbers[from + MAKER] = maker;
            makingNumbers[from + WORK] = work;
            makingNumbers[from + KNEW] = knew;
            makingNumbers[from + PARTED] = parted && (kind == JOIN || kind == BUILD) ? 1 : 0;
            makings++;
            return makings - 1;
        }

        long addTo(long digest) {
            long h = digest;
            for (int i = 0; i < stuffs * OF_STUFF; i++) {
                h = 31 * h + stuffNumbers[i];
            }
            for (int i = 0; i < makings * OF_MAKING; i++) {
                h = 31 * h + makingNumbers[i];
            }
            return h;
        }
    }

    /** Reads LAWS from a TEXT, and knows how LAWS are numbered. */
    private static final class LawReader {
        static final int WORDS = 5, ALL_LAWS = 48, PLAIN = 11112;

        private static final int MOST_CHOICES = 3, DEFAULT_KNOWING = 2;
        /** F, J, M, W, K. */
        private static final int[] CAPITALS = {70, 74, 77, 87, 75};
        /** Three by each capital; 999 is no byte, where there are but two. */
        private static final int[] SMALLS = {
            115, 109, 103, 99, 112, 999, 97, 119, 999, 99, 109, 999, 121, 110, 999};

        private final int[] chosen = new int[WORDS];

        /** The FAULT of a TEXT, or NONE. */
        int read(Row text) {
            for (int w = 0; w < WORDS; w++) {
                chosen[w] = 0;
            }
            int i = 0;
            while (i < text.size) {
                if (text.places[i] == BLANK) {
                    i++;
                    continue;
                }
                int word = wordOf(text.places[i]);
                if (word < 0 || chosen[word] != 0) {
                    return i;
                }
                if (i + 1 >= text.size) {
                    return text.size;
                }
                chosen[word] = choiceOf(word, text.places[i + 1]);
                if (chosen[word] == 0) {
                    return i + 1;
                }
                i += 2;
            }
            return NONE;
        }

        /** The number of the LAWS that were read last, without a FAULT. */
        int number() {
            int number = 0;
            for (int w = 0; w < WORDS; w++) {
                int untold = w == WORDS - 1 ? DEFAULT_KNOWING : 1;
                number = 10 * number + (chosen[w] == 0 ? untold : chosen[w]);
            }
            return number;
        }

        private static int wordOf(int sign) {
            for (int w = 0; w < WORDS; w++) {
                if (CAPITALS[w] == sign) {
                    return w;
                }
            }
            return -1;
        }

        private static int choiceOf(int word, int sign) {
            for (int c = 0; c < MOST_CHOICES; c++) {
                if (SMALLS[word * MOST_CHOICES + c] == sign) {
                    return c + 1;
                }
            }
            return 0;
        }

        /** LAWS i of all, F the slowest to change and K the fastest. */
        static int lawInOrder(int i) {
            return 11111 + 10000 * (i >> 4) + 1000 * (i >> 3 & 1) + 100 * (i >> 2 & 1)
                    + 10 * (i >> 1 & 1) + (i & 1);
        }

        static int wordsBetween(int number, int other) {
            int words = 0;
            int x = number;
            int y = other;
            for (int w = 0; w < WORDS; w++) {
                words += x % 10 == y % 10 ? 0 : 1;
                x /= 10;
                y /= 10;
            }
            return words;
        }
    }

    /**
     * The things as they stand behind the MAKINGS done so far, by LAWS and ANSWERS. A thing is
     * numbered by its outermost STUFF. PARTS of a thing are whole numbers over one lower number,
     * reduced together: so the lower number is the least common one of the document.
     */
    private static final class Course {
        private static final int NOBODY_CAME = -1;
        private static final int HAS_ALL = 0, BY_FORM = 1, BY_WRITE = 2, BY_JOIN = 3;

        private final Tale tale;
        private final int[] lawWords = new int[LawReader.WORDS];
        private int answers = 0;
        final int[] in = new int[STUFFS];
        final int[] sort = new int[STUFFS];
        final int[] worth = new int[STUFFS];
        final int[] amount = new int[STUFFS];
        final int[] lower = new int[STUFFS];
        private final int[] parts = new int[STUFFS * PERSONS];
        private final long[] blended = new long[PERSONS];
        boolean tooFine = false;
        int chief = 0;
        int comer = NOBODY_CAME;
        int chiefWorth = 0;
        int comerWorth = 0;

        Course(Tale tale) {
            this.tale = tale;
        }

        void begin(int lawNumber, int answersTold) {
            int rest = lawNumber;
            for (int w = LawReader.WORDS - 1; w >= 0; w--) {
                lawWords[w] = rest % 10;
                rest /= 10;
            }
            answers = answersTold;
            tooFine = false;
            for (int s = 0; s < tale.stuffs; s++) {
                in[s] = s;
                sort[s] = tale.ofStuff(s, SORT);
                worth[s] = tale.ofStuff(s, WORTH);
                amount[s] = tale.ofStuff(s, AMOUNT);
                giveAll(s, tale.ofStuff(s, OWNER));
            }
        }

        /** Does the MAKINGS from one on, as far as (not with) another. */
        void go(int from, int to) {
            for (int m = from; m < to; m++) {
                step(m);
            }
        }

        /** Looks what a MAKING would be done to, as things stand now. */
        void meet(int m) {
            chief = in[tale.ofMaking(m, CHIEF)];
            chiefWorth = worth[chief];
            comer = NOBODY_CAME;
            comerWorth = 0;
            if (namesTwo(tale.ofMaking(m, KIND)) && in[tale.ofMaking(m, AIM)] != chief) {
                comer = in[tale.ofMaking(m, AIM)];
                comerWorth = worth[comer];
            }
        }

        boolean someCame() {
            return comer != NOBODY_CAME;
        }

        void step(int m) {
            meet(m);
            int kind = tale.ofMaking(m, KIND);
            if (kind == NOTE) {
                return;
            }
            if (!tooFine) {
                share(m, kind);
            }
            worth[chief] += comerWorth + tale.ofMaking(m, WORK);
            if (kind == FORM) {
                sort[chief] = tale.ofMaking(m, AIM);
            } else if (kind == GROW) {
                amount[chief] += tale.ofMaking(m, AIM);
            } else if (someCame()) {
                amount[chief] += kind == MIX ? amount[comer] : 0;
                bringComer();
            }
        }

        private void bringComer() {
            int gone = comer;
            for (int s = 0; s < tale.stuffs; s++) {
                if (in[s] == gone) {
                    in[s] = chief;
                }
            }
        }

        private void share(int m, int kind) {
            int maker = tale.ofMaking(m, MAKER);
            boolean barred = barsKnowing() && knew(tale.ofMaking(m, KNEW));
            if (kind == FORM && !barred && formTakes(tale.ofMaking(m, WORK), chiefWorth)) {
                giveAll(chief, maker);
            } else if (kind == WRITE && !barred && writeTakes()) {
                giveAll(chief, maker);
            } else if (kind == JOIN && someCame() && !chiefTakesJoin()) {
                blend(chiefWorth, comerWorth);
            } else if (kind == MIX && someCame() && mixesByAmount()) {
                blend(amount[chief], amount[comer]);
            } else if (kind == MIX && someCame()) {
                blend(chiefWorth, comerWorth);
            }
        }

        private boolean formTakes(int work, int before) {
            return lawWords[0] == 2 || (lawWords[0] == 3 && work > before);
        }

        private boolean chiefTakesJoin() {
            return lawWords[1] == 1;
        }

        private boolean mixesByAmount() {
            return lawWords[2] == 1;
        }

        private boolean writeTakes() {
            return lawWords[3] == 2;
        }

        private boolean barsKnowing() {
            return lawWords[4] == 1;
        }

        private boolean knew(int way) {
            return way == 1 || (way >= 2 && (answers >> (way - 2) & 1) == 1);
        }

        private void giveAll(int thing, int person) {
            for (int p = 0; p < PERSONS; p++) {
                parts[thing * PERSONS + p] = p == person ? 1 : 0;
            }
            lower[thing] = 1;
        }

        /** Shares of at most 10000 and weights of some thousands stay far within a long. */
        private void blend(long ofChief, long ofComer) {
            long all = (ofChief + ofComer) * lower[chief] * lower[comer];
            long g = all;
            for (int p = 0; p < PERSONS; p++) {
                blended[p] = ofChief * part(chief, p) * lower[comer]
                        + ofComer * part(comer, p) * lower[chief];
                g = divisorOf(g, blended[p]);
            }
            if (g == 0 || all / g > FINEST) {
                tooFine = true;
                return;
            }
            for (int p = 0; p < PERSONS; p++) {
                parts[chief * PERSONS + p] = (int) (blended[p] / g);
            }
            lower[chief] = (int) (all / g);
        }

        long part(int thing, int person) {
            return parts[thing * PERSONS + person];
        }

        boolean hasSome(int s, int person) {
            return part(in[s], person) > 0;
        }

        private boolean hasAll(int thing, int person) {
            return part(thing, person) == lower[thing];
        }

        int debts(int thing) {
            int sum = 0;
            for (int s = 0; s < tale.stuffs; s++) {
                sum += in[s] == thing ? tale.ofStuff(s, DEBT) : 0;
            }
            return sum;
        }

        boolean sharesAlike(Course other, int thing) {
            for (int p = 0; p < PERSONS; p++) {
                if (part(thing, p) * other.lower[thing] != other.part(thing, p) * lower[thing]) {
                    return false;
                }
            }
            return true;
        }

        boolean namesPartOf(int m, int thing) {
            int kind = tale.ofMaking(m, KIND);
            return kind != NOTE && (in[tale.ofMaking(m, CHIEF)] == thing
                    || (namesTwo(kind) && in[tale.ofMaking(m, AIM)] == thing));
        }

        /**
         * How a TAKER who KNEW has all of it by one MAKING more. A JOIN by WORTH is never a way:
         * others had a part of the thing ahead of it, and keep one.
         */
        int slyWay(int s, int person, int work) {
            int thing = in[s];
            if (hasAll(thing, person)) {
                return HAS_ALL;
            }
            if (!barsKnowing() && formTakes(work, worth[thing])) {
                return BY_FORM;
            }
            if (!barsKnowing() && writeTakes()) {
                return BY_WRITE;
            }
            return chiefTakesJoin() && hasAnother(thing, person) ? BY_JOIN : NONE;
        }

        private boolean hasAnother(int thing, int person) {
            for (int s = 0; s < tale.stuffs; s++) {
                if (in[s] != thing && hasAll(in[s], person)) {
                    return true;
                }
            }
            return false;
        }
    }

    /** A HEAP: layers as they came, the first one at 0. */
    private static final class Heap {
        private final int[] persons = new int[LAYERS];
        private final int[] amounts = new int[LAYERS];
        int size = 0;

        void add(int person, int amount) {
            persons[size] = person;
            amounts[size] = amount;
            size++;
        }

        int total() {
            int sum = 0;
            for (int i = 0; i < size; i++) {
                sum += amounts[i];
            }
            return sum;
        }

        int amountOf(int person) {
            int sum = 0;
            for (int i = 0; i < size; i++) {
                sum += persons[i] == person ? amounts[i] : 0;
            }
            return sum;
        }

        int asNumber(int i) {
            return 10 * amounts[i] + persons[i];
        }

        void drawFromFirst(int n) {
            int due = n;
            for (int i = 0; i < size; i++) {
                due -= take(i, due);
            }
        }

        /** What the cuts leave due is less than one by each layer that was cut: one round is enough. */
        void drawByParts(int n) {
            int all = total();
            if (all == 0) {
                return;
            }
            int due = n;
            for (int i = 0; i < size; i++) {
                due -= take(i, amounts[i] * n / all);
            }
            for (int i = 0; i < size; i++) {
                due -= take(i, Math.min(due, 1));
            }
        }

        void drawFromLast(int n, int drawer) {
            int due = n;
            for (int i = size - 1; i >= 0; i--) {
                due -= persons[i] == drawer ? 0 : take(i, due);
            }
            for (int i = size - 1; i >= 0; i--) {
                due -= take(i, due);
            }
        }

        private int take(int i, int most) {
            int taken = Math.min(amounts[i], most);
            amounts[i] -= taken;
            return taken;
        }

        void dropEmpty() {
            int kept = 0;
            for (int i = 0; i < size; i++) {
                if (amounts[i] > 0) {
                    persons[kept] = persons[i];
                    amounts[kept] = amounts[i];
                    kept++;
                }
            }
            size = kept;
        }

        long addTo(long digest) {
            long h = 31 * digest + size;
            for (int i = 0; i < size; i++) {
                h = 31 * h + asNumber(i);
            }
            return h;
        }
    }
}
