import java.util.function.LongSupplier;

/** For each promise, by its number: ordinary inputs, the edges that the document names, wrong inputs. */
public final class PromiseTests {
    private static final int BAD = -1, FULL = -2, FINDING = -3, STATE = -4, SPENT = -6, NONE = -9;
    private static final int NOTHING = 1, BEYOND = 2, UNLIKE = 3, NOUGHT = 4, SIZE = 5;
    private static final int FORM = 1, JOIN = 2, MIX = 3, WRITE = 4, BUILD = 5, GROW = 6;
    private static final int LOW = Integer.MIN_VALUE, HIGH = Integer.MAX_VALUE;

    private static int wrong = 0;
    private static int calls = 0;

    private static void due(int promise, String what, long want, long got) {
        calls++;
        if (got != want) {
            wrong++;
            System.out.println("promise " + promise + ": " + what + " answered " + got + ", due is " + want);
        }
    }

    /** The call is refused by a FINDING, which is told and counted once, and changes nothing else. */
    private static void dueFinding(int promise, String what, int f, MarbleLaw x, LongSupplier call) {
        long[] before = seen(x);
        int count = x.findings(f);
        due(promise, what, FINDING, call.getAsLong());
        due(promise, what + " finding()", f, x.finding());
        due(promise, what + " findings()", count + 1, x.findings(f));
        dueSame(promise, what, before, x);
    }

    /** The call is refused (or answers NONE) without a FINDING and changes nothing at all. */
    private static void dueRefused(int promise, String what, int answer, MarbleLaw x, LongSupplier call) {
        long[] before = seen(x);
        int latest = x.finding();
        int all = allFindings(x);
        due(promise, what, answer, call.getAsLong());
        due(promise, what + " finding() as before", latest, x.finding());
        due(promise, what + " findings() as before", all, allFindings(x));
        dueSame(promise, what, before, x);
    }

    private static int allFindings(MarbleLaw x) {
        int all = 0;
        for (int f = 1; f <= 5; f++) all += x.findings(f);
        return all;
    }

    private static long[] seen(MarbleLaw x) {
        return new long[] {x.digest(), x.asked(), x.upper(), x.lower()};
    }

    private static void dueSame(int promise, String what, long[] before, MarbleLaw x) {
        long[] after = seen(x);
        for (int i = 0; i < before.length; i++) {
            due(promise, what + " leaves all (" + i + ")", before[i], after[i]);
        }
    }

    private static void dueAsked(int promise, String what, int asked, MarbleLaw x, LongSupplier call) {
        due(promise, what, 1, call.getAsLong());
        due(promise, what + " asked()", asked, x.asked());
    }

    private static void dueFraction(int promise, String what, long upper, long lower, MarbleLaw x) {
        due(promise, what + " upper()", upper, x.upper());
        due(promise, what + " lower()", lower, x.lower());
    }

    private static void write(MarbleLaw x, int t, String words) {
        x.text(t, words.length());
        for (int i = 0; i < words.length(); i++) x.put(t, i, words.charAt(i));
    }

    /** LAWS l by words; TEXT 3 is used for it. */
    private static int legislate(MarbleLaw x, int l, String words) {
        write(x, 3, words);
        return x.laws(l, 3);
    }

    private static void fill(MarbleLaw x, int r, int... values) {
        x.row(r, values.length);
        for (int i = 0; i < values.length; i++) x.lay(r, i, values[i]);
    }

    /** Mixed by AMOUNT, then joined by WORTH: by LAWS 0 PARTS are too fine behind the third MAKING. */
    private static MarbleLaw fine() {
        MarbleLaw x = new MarbleLaw();
        x.stuff(0, 97, 1, 0);
        x.stuff(0, 89, 96, 1);
        x.stuff(0, 83, 1, 2);
        x.stuff(0, 53, 1, 3);
        legislate(x, 0, "Ma Jp");
        legislate(x, 1, "Mw");
        x.making(MIX, 0, 1, 0, 0, 0, false);     // 1 and 96 of 97
        x.making(MIX, 2, 3, 0, 0, 0, false);
        x.making(JOIN, 0, 2, 0, 0, 0, false);    // 93 and 68 of 161, by 97: 15617
        return x;
    }

    public static void main(String[] args) {
        newObject();
        rowsAndPlaces();
        copyAndMean();
        texts();
        stuffs();
        makings();
        marks();
        faultsAndLaws();
        insideAndNow();
        whose();
        tooFine();
        changesLostBeside();
        undo();
        sureAndHangs();
        slyAndStop();
        inTime();
        lastStuffAndMaking();
        heaps();
        drawing();
        whatIsTold();
        digest();
        anyNumbers();
        System.out.println(wrong == 0 ? calls + " answers are as due" : wrong + " answers are not as due");
        if (wrong != 0) System.exit(1);
    }

    private static void newObject() {
        MarbleLaw x = new MarbleLaw();
        for (int what = 0; what <= 6; what++) due(1, "count(" + what + ")", 0, x.count(what));
        due(1, "finding()", 0, x.finding());
        due(1, "asked()", 0, x.asked());
        due(1, "upper()", 0, x.upper());
        due(1, "lower()", 1, x.lower());
        for (int f = 1; f <= 5; f++) due(1, "findings", 0, x.findings(f));
        for (int r = 0; r < 6; r++) due(1, "at", FINDING, x.at(r, 0));
        for (int t = 0; t < 4; t++) due(1, "fault", FINDING, x.fault(t));
        for (int l = 0; l < 4; l++) due(1, "law", FINDING, x.law(l));
        for (int h = 0; h < 4; h++) due(1, "left", 0, x.left(h, 0));
        due(1, "about", BAD, x.about(0, 0));
        due(1, "told", BAD, x.told(0, 0));
        MarbleLaw y = new MarbleLaw();
        y.stuff(1, 1, 1, 1);
        due(1, "objects are apart", 0, new MarbleLaw().count(2));
        due(1, "SPENT", SPENT, MarbleLaw.SPENT);
    }

    private static void rowsAndPlaces() {
        MarbleLaw x = new MarbleLaw();
        due(2, "row(0, 3)", 3, x.row(0, 3));
        due(2, "row(5, 40)", 40, x.row(5, 40));
        due(2, "row(1, 0)", 0, x.row(1, 0));
        due(2, "count", 3, x.count(0));
        dueAsked(2, "a new place", 0, x, () -> x.at(5, 39));
        x.lay(0, 1, 77);
        due(2, "row anew", 3, x.row(0, 3));
        dueAsked(2, "a place anew", 0, x, () -> x.at(0, 1));
        due(2, "count anew", 3, x.count(0));
        dueRefused(2, "row(6, 1)", BAD, x, () -> x.row(6, 1));
        dueRefused(2, "row(-1, 1)", BAD, x, () -> x.row(-1, 1));
        dueRefused(2, "row(0, 41)", BAD, x, () -> x.row(0, 41));
        dueRefused(2, "row(6, -1)", BAD, x, () -> x.row(6, -1));
        dueFinding(2, "row(0, -1)", SIZE, x, () -> x.row(0, -1));
        dueFinding(2, "row(0, LOW)", SIZE, x, () -> x.row(0, LOW));

        dueAsked(3, "lay(0, 2, 9)", 0, x, () -> x.lay(0, 2, 9));
        dueAsked(3, "lay(0, 2, LOW)", 9, x, () -> x.lay(0, 2, LOW));
        dueAsked(3, "lay(0, 2, -4)", LOW, x, () -> x.lay(0, 2, -4));
        dueRefused(3, "lay(6, 0, 1)", BAD, x, () -> x.lay(6, 0, 1));
        dueFinding(3, "lay(2, 0, 1)", NOTHING, x, () -> x.lay(2, 0, 1));
        dueFinding(3, "lay(2, -1, 1)", NOTHING, x, () -> x.lay(2, -1, 1));
        dueFinding(3, "lay(0, 3, 1)", BEYOND, x, () -> x.lay(0, 3, 1));
        dueFinding(3, "lay(0, -1, 1)", BEYOND, x, () -> x.lay(0, -1, 1));
        dueFinding(3, "lay(1, 0, 1)", BEYOND, x, () -> x.lay(1, 0, 1));
        dueFinding(3, "lay(5, 40, 1)", BEYOND, x, () -> x.lay(5, 40, 1));

        dueAsked(4, "at(0, 2)", -4, x, () -> x.at(0, 2));
        dueAsked(4, "at(0, 0)", 0, x, () -> x.at(0, 0));
        dueRefused(4, "at(-1, 0)", BAD, x, () -> x.at(-1, 0));
        dueFinding(4, "at(3, 0)", NOTHING, x, () -> x.at(3, 0));
        dueFinding(4, "at(0, 3)", BEYOND, x, () -> x.at(0, 3));
        dueFinding(4, "at(0, LOW)", BEYOND, x, () -> x.at(0, LOW));

        due(5, "tear(0)", 1, x.tear(0));
        due(5, "count", 2, x.count(0));
        dueFinding(5, "tear(0) again", NOTHING, x, () -> x.tear(0));
        dueFinding(5, "at, torn", NOTHING, x, () -> x.at(0, 0));
        dueRefused(5, "tear(6)", BAD, x, () -> x.tear(6));
        dueRefused(5, "tear(-1)", BAD, x, () -> x.tear(-1));
        due(5, "tear of none", 1, x.tear(1));
    }

    private static void copyAndMean() {
        MarbleLaw x = new MarbleLaw();
        fill(x, 0, 1, 2, 3, 4, 5);
        x.row(1, 3);
        due(6, "copy to another", 1, x.copy(0, 3, 1, 1, 2));
        dueAsked(6, "at(1, 0)", 0, x, () -> x.at(1, 0));
        dueAsked(6, "at(1, 1)", 4, x, () -> x.at(1, 1));
        dueAsked(6, "at(1, 2)", 5, x, () -> x.at(1, 2));
        due(6, "copy on itself, onward", 1, x.copy(0, 0, 0, 1, 4));
        int[] onward = {1, 1, 2, 3, 4};
        for (int i = 0; i < 5; i++) {
            int place = i;
            dueAsked(6, "at(0, " + i + ")", onward[i], x, () -> x.at(0, place));
        }
        due(6, "copy on itself, back", 1, x.copy(0, 1, 0, 0, 4));
        int[] back = {1, 2, 3, 4, 4};
        for (int i = 0; i < 5; i++) {
            int place = i;
            dueAsked(6, "at(0, " + i + ")", back[i], x, () -> x.at(0, place));
        }
        due(6, "copy none at the ends", 1, x.copy(0, 5, 1, 3, 0));
        due(6, "copy all", 1, x.copy(1, 0, 0, 2, 3));
        dueRefused(6, "copy(6, ..)", BAD, x, () -> x.copy(6, 0, 0, 0, -1));
        dueRefused(6, "copy(.., 6, ..)", BAD, x, () -> x.copy(0, 0, 6, 0, 1));
        dueRefused(6, "copy(.., -1, ..)", BAD, x, () -> x.copy(0, 0, -1, 0, 1));
        dueFinding(6, "n below 0, and missing", SIZE, x, () -> x.copy(2, 0, 0, 0, -1));
        dueFinding(6, "from missing", NOTHING, x, () -> x.copy(2, 0, 0, 0, 0));
        dueFinding(6, "to missing, and beyond", NOTHING, x, () -> x.copy(0, 9, 2, 0, 1));
        dueFinding(6, "too many there", BEYOND, x, () -> x.copy(0, 3, 0, 0, 3));
        dueFinding(6, "too many for it", BEYOND, x, () -> x.copy(0, 0, 1, 1, 3));
        dueFinding(6, "i below 0", BEYOND, x, () -> x.copy(0, -1, 1, 0, 1));
        dueFinding(6, "j below 0", BEYOND, x, () -> x.copy(0, 0, 1, -1, 1));
        dueFinding(6, "none behind the end", BEYOND, x, () -> x.copy(0, 6, 1, 0, 0));
        dueFinding(6, "huge", BEYOND, x, () -> x.copy(0, 1, 1, 0, HIGH));
        dueFinding(6, "huge place", BEYOND, x, () -> x.copy(0, HIGH, 1, HIGH, HIGH));

        fill(x, 0, 1, 2, 5);
        dueAsked(7, "mean, cut", 2, x, () -> x.mean(0));
        fill(x, 0, -1, -2, -5);
        dueAsked(7, "mean below 0, cut", -2, x, () -> x.mean(0));
        fill(x, 0, HIGH, HIGH, HIGH);
        dueAsked(7, "mean of big ones", HIGH, x, () -> x.mean(0));
        fill(x, 0, LOW, LOW);
        dueAsked(7, "mean of low ones", LOW, x, () -> x.mean(0));
        x.row(5, 40);
        for (int i = 0; i < 40; i++) x.lay(5, i, i);
        dueAsked(7, "mean of 40", 19, x, () -> x.mean(5));
        dueRefused(7, "mean(6)", BAD, x, () -> x.mean(6));
        dueFinding(7, "mean of missing", NOTHING, x, () -> x.mean(4));
        x.row(0, 0);
        dueFinding(7, "mean of none", NOUGHT, x, () -> x.mean(0));
    }

    private static void texts() {
        MarbleLaw x = new MarbleLaw();
        due(8, "text(3, 40)", 40, x.text(3, 40));
        due(8, "text(0, 0)", 0, x.text(0, 0));
        due(8, "count", 2, x.count(1));
        due(8, "a blank", 1032, x.put(3, 39, 70));
        x.put(3, 0, 70);
        due(8, "text anew", 40, x.text(3, 40));
        due(8, "a blank anew", 1032, x.put(3, 0, 32));
        due(8, "a blank anew", 1032, x.put(3, 39, 70));
        dueRefused(8, "text(4, 0)", BAD, x, () -> x.text(4, 0));
        dueRefused(8, "text(-1, 0)", BAD, x, () -> x.text(-1, -1));
        dueRefused(8, "text(0, 41)", BAD, x, () -> x.text(0, 41));
        dueFinding(8, "text(0, -1)", SIZE, x, () -> x.text(0, -1));

        due(9, "put", 1032, x.put(3, 0, 127));
        due(9, "put 128", 1127, x.put(3, 0, 128));
        due(9, "put 255", 872, x.put(3, 0, 255));
        due(9, "put 256 + 65", 999, x.put(3, 0, 321));
        due(9, "put -129", 1065, x.put(3, 0, -129));
        due(9, "put", 1127, x.put(3, 0, 0));
        dueRefused(9, "put(4, ..)", BAD, x, () -> x.put(4, 0, 0));
        dueFinding(9, "put, missing", NOTHING, x, () -> x.put(1, -1, 0));
        dueFinding(9, "put(3, 40)", BEYOND, x, () -> x.put(3, 40, 0));
        dueFinding(9, "put(3, -1)", BEYOND, x, () -> x.put(3, -1, 0));
        dueFinding(9, "put(0, 0)", BEYOND, x, () -> x.put(0, 0, 0));
    }

    private static void stuffs() {
        MarbleLaw x = new MarbleLaw();
        due(10, "stuff", 0, x.stuff(0, 1, 1, 0));
        due(10, "stuff", 1, x.stuff(9, 99, 99, 5));
        dueAsked(10, "SORT", 9, x, () -> x.about(1, 0));
        dueAsked(10, "WORTH", 99, x, () -> x.about(1, 1));
        int[][] bad = {{-1, 1, 1, 0}, {10, 1, 1, 0}, {0, 0, 1, 0}, {0, 100, 1, 0}, {0, 1, 0, 0},
            {0, 1, 100, 0}, {0, 1, 1, -1}, {0, 1, 1, 6}};
        for (int[] b : bad) dueRefused(10, "stuff", BAD, x, () -> x.stuff(b[0], b[1], b[2], b[3]));
        for (int i = 2; i < 16; i++) due(10, "stuff", i, x.stuff(1, 2, 3, 4));
        dueRefused(10, "the 17th", FULL, x, () -> x.stuff(1, 2, 3, 4));
        dueRefused(10, "the 17th, bad", BAD, x, () -> x.stuff(10, 2, 3, 4));

        MarbleLaw y = new MarbleLaw();
        fill(y, 2, 1, 2, 3, 4, 5, 6, 7, 0);
        due(11, "stuffs", 2, y.stuffs(2));
        due(11, "stuffs again", 2, y.stuffs(2));
        due(11, "count", 4, y.count(2));
        int[] second = {5, 6, 7, 0, 0};
        for (int what = 0; what < 5; what++) {
            int w = what;
            dueAsked(11, "about(3, " + w + ")", second[w], y, () -> y.about(3, w));
        }
        y.row(3, 0);
        due(11, "stuffs of none", 0, y.stuffs(3));
        for (int[] b : bad) {
            fill(y, 4, 1, 1, 1, 1, b[0], b[1], b[2], b[3]);
            dueFinding(11, "a number", UNLIKE, y, () -> y.stuffs(4));
        }
        dueRefused(11, "stuffs(6)", BAD, y, () -> y.stuffs(6));
        dueFinding(11, "missing", NOTHING, y, () -> y.stuffs(0));
        y.row(4, 39);
        dueFinding(11, "not by fours", SIZE, y, () -> y.stuffs(4));
        y.row(5, 40);
        fill(y, 4, 1, 1, 1, 1, 1, 1, 1, 1, 1, 1, 1, 1);
        due(11, "three more", 3, y.stuffs(4));
        dueRefused(11, "not all would go, and a number", FULL, y, () -> y.stuffs(5));
        due(11, "three more", 3, y.stuffs(4));
        due(11, "three more", 3, y.stuffs(4));
        due(11, "three more", 3, y.stuffs(4));
        due(11, "count", 16, y.count(2));
        due(11, "stuffs of none when full", 0, y.stuffs(3));
        dueRefused(11, "full", FULL, y, () -> y.stuffs(4));

        due(12, "debt", 0, y.debt(0, 999));
        due(12, "debt", 999, y.debt(0, 0));
        due(12, "debt", 0, y.debt(0, 7));
        dueAsked(12, "debt told", 7, y, () -> y.about(0, 4));
        dueAsked(12, "another's debt", 0, y, () -> y.about(1, 4));
        dueRefused(12, "debt of none", BAD, y, () -> y.debt(16, 1));
        dueRefused(12, "debt of -1", BAD, y, () -> y.debt(-1, 1));
        dueRefused(12, "debt 1000", BAD, y, () -> y.debt(0, 1000));
        dueRefused(12, "debt -1", BAD, y, () -> y.debt(0, -1));

        for (int what = 0; what < 4; what++) {
            int w = what;
            dueAsked(14, "about(0, " + w + ")", w + 1, y, () -> y.about(0, w));
        }
        dueRefused(14, "about(16, 0)", BAD, y, () -> y.about(16, 0));
        dueRefused(14, "about(-1, 0)", BAD, y, () -> y.about(-1, 0));
        dueRefused(14, "about(0, 5)", BAD, y, () -> y.about(0, 5));
        dueRefused(14, "about(0, -1)", BAD, y, () -> y.about(0, -1));
    }

    private static void makings() {
        MarbleLaw x = new MarbleLaw();
        x.stuff(1, 5, 5, 0);
        x.stuff(1, 6, 6, 1);
        x.stuff(2, 7, 7, 2);
        due(13, "a note", 0, x.making(0, 2, -5, 5, 99, 5, true));
        due(13, "a FORM", 1, x.making(FORM, 0, 9, 0, 0, 0, true));
        due(13, "a MIX by the first SORTS", 2, x.making(MIX, 0, 1, 3, 4, 1, true));
        due(13, "a WRITE", 3, x.making(WRITE, 0, HIGH, 2, 3, 2, true));
        due(13, "a GROW", 4, x.making(GROW, 1, 99, 2, 3, 3, true));
        due(13, "a BUILD", 5, x.making(BUILD, 1, 2, 4, 5, 4, true));
        due(13, "a JOIN of two in one", 6, x.making(JOIN, 2, 0, 4, 5, 4, false));
        int[][] bad = {{-1, 0, 1, 0, 0, 0}, {7, 0, 1, 0, 0, 0}, {0, 3, 1, 0, 0, 0}, {0, -1, 1, 0, 0, 0},
            {FORM, 0, 10, 0, 0, 0}, {FORM, 0, -1, 0, 0, 0}, {JOIN, 0, 0, 0, 0, 0}, {JOIN, 0, 3, 0, 0, 0},
            {JOIN, 0, -1, 0, 0, 0}, {MIX, 1, 1, 0, 0, 0}, {MIX, 1, 3, 0, 0, 0}, {BUILD, 2, 2, 0, 0, 0},
            {BUILD, 2, 3, 0, 0, 0}, {GROW, 0, 0, 0, 0, 0}, {GROW, 0, 100, 0, 0, 0},
            {FORM, 0, 1, 6, 0, 0}, {FORM, 0, 1, -1, 0, 0}, {FORM, 0, 1, 0, 100, 0},
            {FORM, 0, 1, 0, -1, 0}, {FORM, 0, 1, 0, 0, 6}, {FORM, 0, 1, 0, 0, -1}, {0, 0, 0, 6, 0, 0},
            {0, 0, 0, 0, 100, 0}, {0, 0, 0, 0, 0, 6}};
        for (int[] b : bad) {
            dueRefused(13, "making", BAD, x, () -> x.making(b[0], b[1], b[2], b[3], b[4], b[5], true));
        }
        dueFinding(13, "MIX of unlike", UNLIKE, x, () -> x.making(MIX, 0, 2, 0, 0, 0, false));
        dueFinding(13, "MIX of unlike", UNLIKE, x, () -> x.making(MIX, 2, 1, 0, 0, 0, false));
        int[][] told = {{0, 2, 0, 5, 99, 5, 0}, {FORM, 0, 9, 0, 0, 0, 0}, {MIX, 0, 1, 3, 4, 1, 0},
            {WRITE, 0, 0, 2, 3, 2, 0}, {GROW, 1, 99, 2, 3, 3, 0}, {BUILD, 1, 2, 4, 5, 4, 1},
            {JOIN, 2, 0, 4, 5, 4, 0}};
        for (int m = 0; m < told.length; m++) {
            for (int what = 0; what < 7; what++) {
                int mm = m, w = what;
                dueAsked(15, "told(" + m + ", " + what + ")", told[m][what], x, () -> x.told(mm, w));
            }
        }
        dueRefused(15, "told(7, 0)", BAD, x, () -> x.told(7, 0));
        dueRefused(15, "told(-1, 0)", BAD, x, () -> x.told(-1, 0));
        dueRefused(15, "told(0, 7)", BAD, x, () -> x.told(0, 7));
        dueRefused(15, "told(0, -1)", BAD, x, () -> x.told(0, -1));
        for (int m = 7; m < 12; m++) due(13, "making", m, x.making(0, 0, 0, 0, 0, 0, false));
        dueRefused(13, "the 13th", FULL, x, () -> x.making(0, 0, 0, 0, 0, 0, false));
        dueRefused(13, "the 13th, unlike", FULL, x, () -> x.making(MIX, 0, 2, 0, 0, 0, false));
        dueRefused(13, "the 13th, bad", BAD, x, () -> x.making(7, 0, 0, 0, 0, 0, false));
    }

    private static void marks() {
        MarbleLaw x = new MarbleLaw();
        for (int i = 0; i < 4; i++) x.stuff(1, 10, 10, i);
        x.making(0, 0, 0, 0, 0, 0, false);
        x.making(FORM, 0, 8, 0, 11, 0, false);
        x.making(JOIN, 0, 1, 0, 12, 0, false);
        x.making(MIX, 0, 3, 0, 13, 0, false);
        x.making(WRITE, 0, 0, 0, 14, 0, false);
        x.making(BUILD, 0, 2, 0, 15, 0, false);
        x.making(GROW, 0, 17, 0, 16, 0, false);
        x.making(JOIN, 1, 2, 0, 5, 0, false);
        x.making(BUILD, 2, 3, 0, 5, 0, false);
        int[][] marks = {{1, FORM, 8}, {2, JOIN, 1}, {3, MIX, 3}, {4, WRITE, 14}, {4, JOIN, 0},
            {5, BUILD, 2}, {5, JOIN, 1}, {6, GROW, 17}, {7, JOIN, 0}, {8, JOIN, 0}, {8, BUILD, 3}};
        MarbleLaw y = new MarbleLaw();
        y.stuff(1, 10, 10, 0);
        y.stuff(1, 10, 10, 0);
        y.making(MIX, 0, 1, 0, 0, 0, false);
        y.making(JOIN, 1, 0, 0, 0, 0, false);
        due(16, "a JOIN of two that were mixed", 0, y.mark(1, JOIN));
        for (int[] k : marks) due(16, "mark(" + k[0] + ", " + k[1] + ")", k[2], x.mark(k[0], k[1]));
        int[][] unlike = {{0, FORM}, {0, JOIN}, {1, JOIN}, {1, GROW}, {2, WRITE}, {2, BUILD}, {2, MIX},
            {3, JOIN}, {4, BUILD}, {5, WRITE}, {6, FORM}, {6, MIX}};
        for (int[] k : unlike) dueFinding(16, "mark", UNLIKE, x, () -> x.mark(k[0], k[1]));
        int[][] bad = {{9, 1}, {-1, 1}, {1, 0}, {0, 0}, {1, 7}, {1, -1}};
        for (int[] k : bad) dueRefused(16, "mark", BAD, x, () -> x.mark(k[0], k[1]));
    }

    private static void faultsAndLaws() {
        MarbleLaw x = new MarbleLaw();
        Object[][] good = {{"", 11112}, {"     ", 11112}, {"Fs", 11112}, {"Fm", 21112}, {"Fg", 31112},
            {"Jc", 11112}, {"Jp", 12112}, {"Ma", 11112}, {"Mw", 11212}, {"Wc", 11112}, {"Wm", 11122},
            {"Ky", 11111}, {"Kn", 11112}, {"  Ky  Fg ", 31111}, {"KyWmMwJpFg", 32221},
            {"Fm Jp Mw Wm Kn                          ", 22222}};
        for (Object[] g : good) {
            write(x, 1, (String) g[0]);
            dueRefused(17, "fault(" + g[0] + ")", NONE, x, () -> x.fault(1));
            due(18, "laws(" + g[0] + ")", (Integer) g[1], x.laws(2, 1));
            due(19, "law(" + g[0] + ")", (Integer) g[1], x.law(2));
        }
        Object[][] faults = {{"F", 1}, {"FsJ", 3}, {"  J", 3}, {"Fx", 1}, {"F s", 1}, {"s", 0}, {" fs", 1},
            {"FsFs", 2}, {"FsF", 2}, {"FsFx", 2}, {"Fs Js", 4}, {"Jg", 1}, {"Jm", 1}, {"Mm", 1}, {"Wp", 1},
            {"Kc", 1}, {"KY", 1}, {"FsX", 2}, {"Fs.", 2}, {"Fss", 2}, {"FF", 1}, {"\tFs", 0}, {"Fs\n", 2},
            {" ".repeat(39) + "F", 40}, {"J\0", 1}, {"K\u00ff", 1}, {"\u00e7", 0}};
        due(18, "laws ahead", 32221, legislate(x, 2, "KyWmMwJpFg"));
        for (Object[] f : faults) {
            write(x, 1, (String) f[0]);
            due(17, "fault(" + f[0] + ")", (Integer) f[1], x.fault(1));
            dueRefused(18, "laws(" + f[0] + ")", STATE, x, () -> x.laws(2, 1));
            due(19, "law stays", 32221, x.law(2));
        }
        dueRefused(17, "fault(4)", BAD, x, () -> x.fault(4));
        dueRefused(17, "fault(-1)", BAD, x, () -> x.fault(-1));
        dueFinding(17, "fault(0)", NOTHING, x, () -> x.fault(0));
        dueRefused(18, "laws(4, 0)", BAD, x, () -> x.laws(4, 0));
        dueRefused(18, "laws(0, 4)", BAD, x, () -> x.laws(0, 4));
        dueRefused(18, "laws(-1, 0)", BAD, x, () -> x.laws(-1, 0));
        dueFinding(18, "laws(0, 0)", NOTHING, x, () -> x.laws(0, 0));
        dueRefused(19, "law(4)", BAD, x, () -> x.law(4));
        dueRefused(19, "law(-1)", BAD, x, () -> x.law(-1));
        dueFinding(19, "law(0)", NOTHING, x, () -> x.law(0));
        due(19, "count", 1, x.count(5));
        due(18, "laws(0, ..)", 11112, legislate(x, 0, ""));
        due(40, "count of LAWS", 2, x.count(5));
        write(x, 1, "Fm");
        x.laws(0, 1);
        write(x, 1, "Fg");
        due(19, "law stays, though its TEXT is another", 21112, x.law(0));
    }

    private static void insideAndNow() {
        MarbleLaw x = new MarbleLaw();
        x.stuff(1, 10, 4, 0);
        x.stuff(2, 20, 5, 1);
        x.stuff(2, 30, 6, 2);
        x.stuff(3, 40, 7, 3);
        x.making(MIX, 1, 2, 0, 1, 0, false);
        x.making(JOIN, 0, 2, 0, 2, 0, false);
        x.making(FORM, 2, 9, 0, 3, 0, false);
        x.making(GROW, 1, 50, 0, 4, 0, false);
        x.making(MIX, 2, 1, 0, 5, 0, false);
        x.making(BUILD, 3, 1, 0, 6, 0, false);
        x.making(WRITE, 0, 0, 0, 7, 0, false);
        x.making(0, 0, 0, 0, 99, 0, false);
        for (int s = 0; s < 4; s++) x.debt(s, 100 + s);
        int[][] inside = {{0, 1, 2, 3}, {0, 1, 1, 3}, {0, 0, 0, 3}, {0, 0, 0, 3}, {0, 0, 0, 3},
            {0, 0, 0, 3}, {3, 3, 3, 3}, {3, 3, 3, 3}, {3, 3, 3, 3}};
        for (int m = 0; m <= 8; m++) {
            for (int s = 0; s < 4; s++) due(20, "inside(" + s + ", " + m + ")", inside[m][s], x.inside(s, m));
        }
        int[][] ofTwo = {{2, 30, 6, 102}, {2, 51, 11, 203}, {1, 63, 4, 303}, {9, 66, 4, 303}, {9, 70, 54, 303},
            {9, 75, 54, 303}, {3, 121, 7, 406}, {3, 128, 7, 406}, {3, 128, 7, 406}};
        for (int m = 0; m <= 8; m++) {
            for (int what = 0; what < 4; what++) {
                due(21, "now(2, " + m + ", " + what + ")", ofTwo[m][what], x.now(2, m, what));
            }
        }
        MarbleLaw y = new MarbleLaw();
        for (int s = 0; s < 16; s++) y.stuff(0, 99, 99, 0);
        for (int s = 1; s < 12; s++) y.making(MIX, s - 1, s, 0, 99, 0, false);
        for (int s = 0; s < 16; s++) y.debt(s, 999);
        due(20, "eleven in one", 0, y.inside(11, 11));
        due(21, "WORTH of eleven in one", 12 * 99 + 11 * 99, y.now(5, 11, 1));
        due(21, "AMOUNT of eleven in one", 12 * 99, y.now(5, 11, 2));
        due(21, "debts of eleven in one", 12 * 999, y.now(5, 11, 3));
        due(21, "debts of the last", 999, y.now(15, 11, 3));
        due(21, "first WORTH stays", 1, x.about(2, 1));
        due(21, "first WORTH stays", 30, x.asked());
        int[][] bad = {{4, 0}, {-1, 0}, {0, 9}, {0, -1}};
        for (int[] b : bad) {
            dueRefused(20, "inside", BAD, x, () -> x.inside(b[0], b[1]));
            dueRefused(21, "now", BAD, x, () -> x.now(b[0], b[1], 0));
        }
        dueRefused(21, "now(0, 0, 4)", BAD, x, () -> x.now(0, 0, 4));
        dueRefused(21, "now(0, 0, -1)", BAD, x, () -> x.now(0, 0, -1));
    }

    /** Whether a PERSON has all behind one FORM or WRITE, by LAWS, WORK against a WORTH of 50, KNEW. */
    private static void dueTaken(String words, int kind, int work, int knew, int answers, boolean taken) {
        MarbleLaw x = new MarbleLaw();
        x.stuff(0, 50, 1, 0);
        x.making(kind, 0, 1, 1, work, knew, false);
        legislate(x, 0, words);
        due(22, words + " " + kind + " by " + work + " knew " + knew, taken ? 1 : 0, x.whose(0, 0, 1, answers, 1));
        dueFraction(22, words, taken ? 1 : 0, 1, x);
        due(23, words + " owners", taken ? 2 : 1, x.owners(0, 0, 1, answers));
    }

    private static void whose() {
        dueTaken("", FORM, 99, 0, 0, false);
        dueTaken("Fm", FORM, 0, 0, 0, true);
        dueTaken("Fm", FORM, 0, 1, 15, true);
        dueTaken("Fm Ky", FORM, 0, 0, 15, true);
        dueTaken("Fm Ky", FORM, 0, 1, 0, false);
        dueTaken("Fg", FORM, 50, 0, 0, false);
        dueTaken("Fg", FORM, 51, 0, 0, true);
        dueTaken("Fg Ky", FORM, 51, 1, 0, false);
        dueTaken("Wm", FORM, 99, 0, 0, false);
        dueTaken("Fm", WRITE, 99, 0, 0, false);
        dueTaken("Wm", WRITE, 0, 0, 0, true);
        dueTaken("Wm Kn", WRITE, 0, 1, 0, true);
        dueTaken("Wm Ky", WRITE, 0, 1, 0, false);
        for (int q = 0; q < 4; q++) {
            dueTaken("Wm Ky", WRITE, 0, 2 + q, 1 << q, false);
            dueTaken("Wm Ky", WRITE, 0, 2 + q, 15 - (1 << q), true);
            dueTaken("Fm Ky", FORM, 0, 2 + q, 1 << q, false);
            dueTaken("Fm Kn", FORM, 0, 2 + q, 1 << q, true);
        }
        dueTaken("Fm Wm", GROW, 99, 0, 0, false);
        dueTaken("Fm Wm", 0, 99, 0, 0, false);
        joined("", JOIN, 1, 0);
        joined("Mw Wm Fm", JOIN, 1, 0);
        joined("Jp", JOIN, 2, 3);
        joined("Jp", BUILD, 1, 0);
        joined("Jc", MIX, 1, 4);
        joined("Jp Ma", MIX, 1, 4);
        joined("Mw", MIX, 2, 3);
        MarbleLaw x = new MarbleLaw();
        x.stuff(0, 50, 1, 0);
        x.making(0, 0, 0, 0, 0, 0, false);
        legislate(x, 0, "");
        int[][] bad = {{4, 0, 0, 0, 0}, {-1, 0, 0, 0, 0}, {1, 1, 0, 0, 0}, {0, -1, 0, 0, 0}, {0, 0, 2, 0, 0},
            {0, 0, -1, 0, 0}, {1, 0, 0, 16, 0}, {0, 0, 0, -1, 0}, {0, 0, 0, 0, 6}, {1, 0, 0, 0, -1}};
        for (int[] b : bad) {
            dueRefused(22, "whose", BAD, x, () -> x.whose(b[0], b[1], b[2], b[3], b[4]));
            if (b[4] == 0) dueRefused(23, "owners", BAD, x, () -> x.owners(b[0], b[1], b[2], b[3]));
        }
        dueFinding(22, "no LAWS", NOTHING, x, () -> x.whose(1, 0, 1, 15, 5));
        dueFinding(23, "no LAWS", NOTHING, x, () -> x.owners(1, 0, 1, 15));
    }

    /** s of WORTH 20, AMOUNT 10; t of WORTH 30, AMOUNT 40; behind WORK 9. upper 1 and lower 0: all s's. */
    private static void joined(String words, int kind, int ofChief, int ofComer) {
        MarbleLaw x = new MarbleLaw();
        x.stuff(0, 20, 10, 4);
        x.stuff(0, 30, 40, 5);
        x.making(kind, 0, 1, 1, 9, 1, false);
        legislate(x, 1, words);
        int all = ofChief + ofComer;
        due(22, words + " chief's", 1, x.whose(1, 1, 1, 0, 4));
        dueFraction(22, words + " chief's", ofChief, all, x);
        due(22, words + " comer's", ofComer == 0 ? 0 : 1, x.whose(1, 0, 1, 0, 5));
        dueFraction(22, words + " comer's", ofComer, ofComer == 0 ? 1 : all, x);
        due(22, words + " ahead", 1, x.whose(1, 1, 0, 0, 5));
        dueFraction(22, words + " ahead", 1, 1, x);
        due(23, words + " owners", ofComer == 0 ? 16 : 48, x.owners(1, 1, 1, 0));
        due(23, words + " owners ahead", 32, x.owners(1, 1, 0, 0));
    }

    private static void tooFine() {
        MarbleLaw x = fine();
        due(22, "ahead of the fine one", 1, x.whose(0, 3, 2, 0, 2));
        dueFraction(22, "ahead of the fine one", 1, 2, x);
        dueFinding(22, "behind it", SIZE, x, () -> x.whose(0, 0, 3, 0, 5));
        dueFinding(23, "behind it", SIZE, x, () -> x.owners(0, 1, 3, 7));
        x.stuff(1, 1, 1, 5);
        dueFinding(23, "of another thing behind it", SIZE, x, () -> x.owners(0, 4, 3, 7));
        due(21, "now() is no call of PARTS", 322, x.now(0, 3, 1));
        due(22, "by other LAWS", 1, x.whose(1, 0, 3, 0, 0));
        due(23, "by other LAWS", 3, x.owners(1, 3, 3, 0));
        dueFinding(24, "changes, at the fine one", SIZE, x, () -> x.changes(0, 0, 0, 4));
        due(24, "changes, ahead of the fine one", 0, x.changes(0, 0, 0, 1));
        dueFinding(25, "lost by the fine one", SIZE, x, () -> x.lost(0, 2, 0, 0));
        due(25, "lost ahead of it", 0, x.lost(0, 1, 0, 0));
        dueFinding(26, "beside itself", SIZE, x, () -> x.beside(0, 0, 0));
        due(26, "beside, ahead of it", 0, x.beside(0, 1, 0));
        legislate(x, 2, "Ma Jc");
        dueFinding(26, "beside, the one too fine", SIZE, x, () -> x.beside(0, 2, 0));
        dueFinding(26, "beside, the other too fine", SIZE, x, () -> x.beside(2, 0, 0));
        dueFinding(28, "sure", SIZE, x, () -> x.sure(0, 0, 3, 0));
        due(28, "sure ahead", 2, x.sure(0, 0, 2, 0));
        dueFinding(29, "hangs", SIZE, x, () -> x.hangs(0, 0, 3, 0));
        dueFinding(30, "sly", SIZE, x, () -> x.sly(0, 4, 5, 0));
        dueFinding(31, "stop", SIZE, x, () -> x.stop(0, 4, 5, 0));
        dueFinding(32, "inTime", SIZE, x, () -> x.inTime(0, 0, 4));
        x.making(WRITE, 0, 0, 5, 0, 0, false);
        legislate(x, 2, "Jp Wm");
        dueFinding(22, "all one's again behind it", SIZE, x, () -> x.whose(2, 0, 4, 0, 5));
        finest();
        fineByOneAnswer();
    }

    /** A lower number of 10000 is told, one of 10001 is not: weights 1 .. by AMOUNT. */
    private static void finest() {
        for (int last = 0; last < 2; last++) {
            MarbleLaw x = new MarbleLaw();
            legislate(x, 0, "Jp");
            if (last == 0) {
                x.stuff(0, 1, 1, 0);      // 1 and 99 of 100 by AMOUNT ..
                x.stuff(0, 1, 99, 1);
                x.stuff(0, 99, 1, 2);     // .. then 2 and 198 of WORTH: 1 by 100 of it
                x.stuff(0, 99, 1, 2);
                x.making(MIX, 0, 1, 0, 0, 0, false);
                x.making(MIX, 2, 3, 0, 0, 0, false);
                x.making(JOIN, 0, 2, 0, 0, 0, false);
                due(22, "10000 is not too fine", 1, x.whose(0, 0, 3, 0, 0));
                dueFraction(22, "10000", 1, 10000, x);
                due(22, "10000", 1, x.whose(0, 0, 3, 0, 1));
                dueFraction(22, "10000", 99, 10000, x);
                due(22, "10000", 1, x.whose(0, 0, 3, 0, 2));
                dueFraction(22, "10000", 99, 100, x);
            } else {
                x.stuff(0, 1, 1, 0);      // 1 and 72 of 73 by AMOUNT; 137 of WORTH: 73 * 137 is 10001
                x.stuff(0, 1, 72, 1);
                x.stuff(0, 99, 1, 2);
                x.stuff(0, 36, 1, 2);
                x.making(MIX, 0, 1, 0, 0, 0, false);
                x.making(MIX, 2, 3, 0, 0, 0, false);
                x.making(JOIN, 0, 2, 0, 0, 0, false);
                dueFinding(22, "10001 is too fine", SIZE, x, () -> x.whose(0, 0, 3, 0, 0));
            }
        }
    }

    /** PARTS are too fine, unless question 0 is told no and all is the MAKER's ahead of the mixing. */
    private static void fineByOneAnswer() {
        MarbleLaw x = new MarbleLaw();
        x.stuff(0, 97, 1, 0);
        x.stuff(0, 89, 96, 1);
        x.stuff(0, 83, 1, 2);
        x.making(MIX, 0, 1, 0, 0, 0, false);
        x.making(WRITE, 0, 0, 4, 0, 2, false);
        x.making(JOIN, 0, 2, 0, 0, 0, false);
        legislate(x, 0, "Jp Wm Ky");
        due(22, "told no", 1, x.whose(0, 0, 3, 14, 4));
        dueFraction(22, "told no", 186, 269, x);
        dueFinding(22, "told yes", SIZE, x, () -> x.whose(0, 0, 3, 1, 4));
        dueFinding(28, "by one of all", SIZE, x, () -> x.sure(0, 0, 3, 4));
        dueFinding(29, "by one of all", SIZE, x, () -> x.hangs(0, 0, 3, 4));
        due(30, "by ANSWERS 0", NONE, x.sly(0, 0, 4, 99));
        due(31, "by ANSWERS 0", 12121, x.stop(0, 0, 4, 99));
        due(32, "by ANSWERS 0", NONE, x.inTime(0, 0, 4));
    }

    private static void changesLostBeside() {
        MarbleLaw x = new MarbleLaw();
        x.stuff(0, 20, 10, 0);
        x.stuff(0, 30, 40, 1);
        x.stuff(1, 10, 1, 2);
        legislate(x, 0, "");
        legislate(x, 1, "Fm Jp Mw Wm Ky");
        legislate(x, 2, "Mw Wm");
        x.making(0, 0, 0, 5, 9, 0, false);
        x.making(MIX, 0, 1, 5, 10, 0, false);
        x.making(FORM, 1, 4, 3, 0, 4, false);
        x.making(JOIN, 2, 0, 5, 0, 0, false);
        x.making(MIX, 1, 0, 5, 8, 0, false);
        x.making(WRITE, 0, 0, 4, 0, 0, false);
        due(24, "owner of the chief", 1, x.changes(0, 0, 0, 0));
        due(24, "of the comer", 1, x.changes(0, 1, 0, 1));
        due(24, "of the last chief", 3, x.changes(0, 0, 0, 2));
        due(24, "of it itself", NONE, x.changes(0, 2, 0, 2));
        due(24, "by FORM", 2, x.changes(1, 0, 0, 3));
        due(24, "by FORM, knowing", NONE, x.changes(1, 0, 4, 3));
        due(24, "by WRITE", 5, x.changes(1, 2, 0, 4));
        due(24, "never", NONE, x.changes(0, 2, 0, 5));

        // LAWS 0: MIX by AMOUNT: of 50 of WORTH, PERSON 0 has 10 (had 20), PERSON 1 has 40 (had 30)
        int[][] lost = {{0, 0, 0, 0, 0, 1}, {0, 1, 0, 1, 10, 1}, {0, 1, 1, 2, -10, 1}, {0, 1, 5, 0, 0, 1},
            {1, 1, 0, 0, 0, 1}, {1, 2, 0, 1, 24, 1}, {1, 2, 1, 1, 36, 1}, {1, 2, 3, 2, -60, 1},
            {0, 3, 0, 1, 12, 1}, {0, 3, 1, 1, 48, 1}, {0, 3, 2, 2, -60, 1}, {1, 3, 3, 0, 0, 1},
            {1, 4, 3, 0, 0, 1}, {0, 4, 2, 0, 0, 1}, {1, 5, 3, 1, 468, 7}, {1, 5, 2, 1, 78, 7}, {1, 5, 4, 2, -78, 1}};
        for (int[] k : lost) {
            String what = "lost(" + k[0] + ", " + k[1] + ", 0, " + k[2] + ")";
            due(25, what, k[3], x.lost(k[0], k[1], 0, k[2]));
            dueFraction(25, what, k[4], k[5], x);
        }
        due(25, "by the ANSWERS", 0, x.lost(1, 2, 4, 0));
        MarbleLaw y = new MarbleLaw();
        y.stuff(0, 1, 1, 0);
        y.making(WRITE, 0, 0, 1, 0, 0, false);
        legislate(y, 0, "Wm");
        due(25, "1 is lost", 1, y.lost(0, 0, 0, 0));
        due(25, "1 is gained", 2, y.lost(0, 0, 0, 1));

        due(26, "0 and 1", 1, x.beside(0, 1, 0));
        due(26, "1 and 0", 1, x.beside(1, 0, 0));
        due(26, "1 and 2", 2, x.beside(1, 2, 0));
        due(26, "1 and 2, FORM by one who knew", 3, x.beside(1, 2, 4));
        due(26, "alike", NONE, x.beside(1, 1, 0));

        int[][] bad = {{4, 0, 0, 0}, {-1, 0, 0, 0}, {3, 6, 0, 0}, {3, -1, 0, 0}, {3, 0, 16, 0}, {0, 0, -1, 0},
            {3, 0, 0, 6}, {0, 0, 0, -1}};
        for (int[] b : bad) {
            dueRefused(24, "changes", BAD, x, () -> x.changes(b[0], b[1], b[2], b[3]));
            dueRefused(25, "lost", BAD, x, () -> x.lost(b[0], b[1], b[2], b[3]));
        }
        dueRefused(24, "changes of no STUFF", BAD, x, () -> x.changes(0, 3, 0, 0));
        dueRefused(26, "beside", BAD, x, () -> x.beside(4, 3, 0));
        dueRefused(26, "beside", BAD, x, () -> x.beside(3, 4, 0));
        dueRefused(26, "beside", BAD, x, () -> x.beside(0, -1, 0));
        dueRefused(26, "beside", BAD, x, () -> x.beside(0, 3, 16));
        dueRefused(26, "beside", BAD, x, () -> x.beside(0, 3, -1));
        dueFinding(24, "no LAWS", NOTHING, x, () -> x.changes(3, 0, 0, 0));
        dueFinding(25, "no LAWS", NOTHING, x, () -> x.lost(3, 0, 0, 0));
        dueFinding(26, "no LAWS", NOTHING, x, () -> x.beside(3, 0, 0));
        dueFinding(26, "no LAWS", NOTHING, x, () -> x.beside(0, 3, 0));
    }

    private static void undo() {
        MarbleLaw x = new MarbleLaw();
        for (int s = 0; s < 6; s++) x.stuff(0, 10 * s + 10, 1, s);
        x.making(JOIN, 0, 1, 0, 3, 0, true);      // 0: saves 20; the thing is 33
        x.making(MIX, 2, 3, 0, 4, 0, true);       // 1: the thing is 74
        x.making(BUILD, 4, 3, 0, 5, 0, true);     // 2: saves 74; the thing is 129
        x.making(0, 4, 0, 0, 9, 0, false);        // 3
        x.making(JOIN, 2, 4, 0, 6, 0, true);      // 4: two in one; the thing is 135
        x.making(JOIN, 5, 0, 0, 7, 0, true);      // 5: saves 33; the thing is 100
        x.making(WRITE, 4, 0, 0, 8, 0, true);     // 6: the thing is 143
        x.making(BUILD, 5, 4, 0, 9, 0, false);    // 7: not to be parted; the thing is 252
        dueAsked(27, "undo(0, 1)", 20 - 4, x, () -> x.undo(0, 1));
        dueAsked(27, "undo(0, 5)", 20 - 4, x, () -> x.undo(0, 5));
        dueRefused(27, "undo(0, 6): joined further", 0, x, () -> x.undo(0, 6));
        dueRefused(27, "undo(1, 2): a MIX", 0, x, () -> x.undo(1, 2));
        dueAsked(27, "undo(2, 3)", 74 - 13, x, () -> x.undo(2, 3));
        dueAsked(27, "undo(2, 4): a note", 74 - 13, x, () -> x.undo(2, 4));
        dueRefused(27, "undo(2, 5)", 0, x, () -> x.undo(2, 5));
        dueRefused(27, "undo(3, 4): a note", 0, x, () -> x.undo(3, 4));
        dueRefused(27, "undo(4, 5): none came", 0, x, () -> x.undo(4, 5));
        dueAsked(27, "undo(5, 6)", 33 - 11, x, () -> x.undo(5, 6));
        dueAsked(27, "undo(5, 7): another thing is written on", 33 - 11, x, () -> x.undo(5, 7));
        dueRefused(27, "undo(5, 8)", 0, x, () -> x.undo(5, 8));
        dueRefused(27, "undo(6, 7): a WRITE", 0, x, () -> x.undo(6, 7));
        dueRefused(27, "undo(7, 8): told that not", 0, x, () -> x.undo(7, 8));
        dueRefused(27, "undo(8, 8)", BAD, x, () -> x.undo(8, 8));
        dueRefused(27, "undo(0, 0)", BAD, x, () -> x.undo(0, 0));
        dueRefused(27, "undo(5, 5)", BAD, x, () -> x.undo(5, 5));
        dueRefused(27, "undo(-1, 5)", BAD, x, () -> x.undo(-1, 5));
        dueRefused(27, "undo(0, 9)", BAD, x, () -> x.undo(0, 9));
        dueRefused(27, "undo(0, -1)", BAD, x, () -> x.undo(0, -1));
        MarbleLaw y = new MarbleLaw();
        y.stuff(0, 99, 1, 0);
        y.stuff(0, 1, 1, 0);
        y.making(JOIN, 0, 1, 0, 99, 0, true);
        dueAsked(27, "it costs more", 1 - 20, y, () -> y.undo(0, 1));
        y.stuff(0, 1, 1, 0);
        y.making(GROW, 1, 1, 0, 0, 0, true);
        dueRefused(27, "the one in it grew", 0, y, () -> y.undo(0, 2));
        MarbleLaw z = new MarbleLaw();
        for (int s = 0; s < 3; s++) z.stuff(0, 5, 1, 0);
        z.making(JOIN, 0, 1, 0, 0, 0, true);
        z.making(MIX, 2, 0, 0, 0, 0, true);
        dueRefused(27, "mixed to another", 0, z, () -> z.undo(0, 2));
        MarbleLaw w = new MarbleLaw();
        for (int s = 0; s < 3; s++) w.stuff(0, 5, 1, 0);
        w.making(JOIN, 0, 1, 0, 0, 0, true);
        w.making(MIX, 0, 2, 0, 0, 0, true);
        dueRefused(27, "another mixed to it", 0, w, () -> w.undo(0, 2));
    }

    private static void sureAndHangs() {
        MarbleLaw x = new MarbleLaw();
        x.stuff(0, 10, 1, 0);
        legislate(x, 0, "Wm Ky");
        legislate(x, 1, "Wm");
        x.making(WRITE, 0, 0, 1, 0, 4, false);    // question 2
        x.making(WRITE, 0, 0, 2, 0, 2, false);    // question 0
        x.making(WRITE, 0, 0, 1, 0, 5, false);    // question 3
        x.making(WRITE, 0, 0, 3, 0, 0, false);
        x.making(WRITE, 0, 0, 4, 0, 1, false);
        int[][] told = {{0, 0, 0, 2, 0}, {0, 0, 1, 0, 0}, {0, 1, 1, 1, 4}, {0, 1, 0, 1, 4}, {0, 2, 1, 1, 5},
            {0, 2, 2, 1, 1}, {0, 2, 0, 1, 5}, {0, 3, 1, 1, 13}, {0, 3, 2, 1, 9}, {0, 3, 0, 1, 13}, {0, 3, 3, 0, 0},
            {0, 4, 3, 2, 0}, {0, 4, 1, 0, 0}, {0, 5, 3, 2, 0}, {0, 5, 4, 0, 0}, {1, 3, 1, 2, 0}, {1, 5, 4, 2, 0},
            {1, 2, 0, 0, 0}};
        for (int[] k : told) {
            String what = "(" + k[0] + ", 0, " + k[1] + ", " + k[2] + ")";
            due(28, "sure" + what, k[3], x.sure(k[0], 0, k[1], k[2]));
            due(29, "hangs" + what, k[4], x.hangs(k[0], 0, k[1], k[2]));
        }
        // All four questions: 0 keeps it by all of them alone.
        MarbleLaw y = new MarbleLaw();
        y.stuff(0, 10, 1, 0);
        for (int q = 0; q < 4; q++) y.making(FORM, 0, 1, 1, 0, 2 + q, false);
        legislate(y, 0, "Fm Ky");
        due(28, "four questions", 1, y.sure(0, 0, 4, 0));
        due(29, "four questions", 15, y.hangs(0, 0, 4, 0));
        due(29, "two questions", 3, y.hangs(0, 0, 2, 1));
        int[][] bad = {{4, 0, 0, 0}, {-1, 0, 0, 0}, {2, 1, 0, 0}, {2, -1, 0, 0}, {2, 0, 6, 0}, {2, 0, -1, 0},
            {2, 0, 0, 6}, {0, 0, 0, -1}};
        for (int[] b : bad) {
            dueRefused(28, "sure", BAD, x, () -> x.sure(b[0], b[1], b[2], b[3]));
            dueRefused(29, "hangs", BAD, x, () -> x.hangs(b[0], b[1], b[2], b[3]));
        }
        dueFinding(28, "no LAWS", NOTHING, x, () -> x.sure(2, 0, 0, 0));
        dueFinding(29, "no LAWS", NOTHING, x, () -> x.hangs(2, 0, 0, 0));
    }

    /** By LAWS of each kind: PERSON 1 on STUFF 0 of PERSON 0, WORTH 50 with all; he has STUFF 1 or not. */
    private static void dueSly(String words, int work, boolean hasOther, int way, int stop, int fewest) {
        MarbleLaw x = new MarbleLaw();
        x.stuff(0, 30, 1, 0);
        x.stuff(0, 10, 1, 0);
        if (hasOther) x.stuff(0, 10, 1, 1);
        x.making(BUILD, 0, 1, 0, 10, 0, false);
        int number = legislate(x, 0, words);
        String what = words + " by " + work + (hasOther ? " with another" : "");
        dueRefused(30, "sly " + what, way, x, () -> x.sly(0, 0, 1, work));
        due(30, "sly, the one in it " + what, way, x.sly(0, 1, 1, work));
        due(31, "stop " + what, stop, x.stop(0, 1, 1, work));
        due(31, "stop's words " + what, fewest, x.asked());
        due(31, "LAWS stay " + what, number, x.law(0));
    }

    private static void slyAndStop() {
        dueSly("", 99, false, NONE, 11112, 0);
        dueSly("Fm", 0, false, 1, 11112, 1);
        dueSly("Fg", 50, false, NONE, 31112, 0);
        dueSly("Fg", 51, false, 1, 11112, 1);
        dueSly("Fm Ky", 99, false, NONE, 21111, 0);
        dueSly("Wm", 0, false, 2, 11112, 1);
        dueSly("Wm Fm", 0, false, 1, 21121, 1);
        dueSly("Wm Fg", 50, false, 2, 31112, 1);
        dueSly("Wm Ky", 99, false, NONE, 11121, 0);
        dueSly("", 0, true, 3, 12112, 1);
        dueSly("Jp", 0, true, NONE, 12112, 0);
        dueSly("Ky Fm Wm", 0, true, 3, 22121, 1);
        dueSly("Fm", 0, true, 1, 12112, 2);
        dueSly("Fm Wm", 0, true, 1, 22121, 2);
        dueSly("Fm Wm Mw", 0, true, 1, 22221, 2);

        MarbleLaw x = new MarbleLaw();
        x.stuff(0, 30, 1, 0);
        x.stuff(0, 30, 1, 1);
        legislate(x, 0, "Fm");
        dueRefused(30, "he has all already", 0, x, () -> x.sly(0, 0, 0, 5));
        dueRefused(31, "he has all by all LAWS", NONE, x, () -> x.stop(0, 0, 0, 5));
        x.making(JOIN, 1, 0, 2, 0, 0, false);
        legislate(x, 1, "Jp");
        due(30, "a part is not all", NONE, x.sly(1, 0, 0, 99));
        due(30, "his thing is the same one", NONE, x.sly(1, 0, 1, 99));
        due(31, "by him who had it", 12112, x.stop(0, 0, 1, 0));
        due(31, "by him who had it", 2, x.asked());
        MarbleLaw y = fine();
        y.stuff(1, 10, 10, 5);
        due(31, "LAWS too fine are left out", 12212, y.stop(1, 0, 5, 0));
        due(31, "LAWS too fine are left out", 1, y.asked());
        y.making(BUILD, 4, 0, 0, 0, 0, false);
        due(31, "but behind all of them", NONE, y.stop(1, 0, 5, 0));
        MarbleLaw z = new MarbleLaw();
        z.stuff(0, 30, 1, 0);
        z.stuff(0, 30, 1, 1);
        for (int i = 0; i < 12; i++) z.making(0, 0, 0, 0, 0, 0, false);
        legislate(z, 0, "");
        due(30, "behind 12 MAKINGS", 3, z.sly(0, 0, 1, 0));
        due(30, "nothing is made", 12, z.count(3));
        due(30, "his thing is STUFF 0", 3, z.sly(0, 1, 0, 0));
        z.stuff(0, 1, 1, 2);
        due(30, "a thing that is another's", NONE, z.sly(0, 0, 3, 0));
        MarbleLaw u = new MarbleLaw();
        u.stuff(0, 30, 1, 0);
        u.making(WRITE, 0, 0, 1, 0, 2, false);
        u.making(FORM, 0, 0, 2, 99, 0, false);
        legislate(u, 0, "Fm");
        due(31, "first of alike ones", 11112, u.stop(0, 0, 2, 99));
        legislate(u, 0, "Wm Ky");
        due(30, "ANSWERS 0: who may have known did not", 0, u.sly(0, 0, 1, 99));
        due(31, "ANSWERS 0: K y does not stop him", 11111, u.stop(0, 0, 1, 99));
        due(31, "ANSWERS 0: by one word", 1, u.asked());
        legislate(u, 0, "Ky");
        due(31, "no word", 11111, u.stop(0, 0, 1, 99));
        due(31, "no word", 0, u.asked());
        int[][] bad = {{4, 0, 0, 0}, {-1, 0, 0, 0}, {2, 2, 0, 0}, {2, -1, 0, 0}, {2, 0, 6, 0}, {2, 0, -1, 0},
            {2, 0, 0, 100}, {0, 0, 0, -1}};
        for (int[] b : bad) {
            dueRefused(30, "sly", BAD, x, () -> x.sly(b[0], b[1], b[2], b[3]));
            dueRefused(31, "stop", BAD, x, () -> x.stop(b[0], b[1], b[2], b[3]));
        }
        dueFinding(30, "no LAWS", NOTHING, x, () -> x.sly(2, 0, 0, 99));
        dueFinding(31, "no LAWS", NOTHING, x, () -> x.stop(2, 0, 0, 99));
    }

    private static void inTime() {
        MarbleLaw x = new MarbleLaw();
        x.stuff(0, 30, 1, 0);
        x.stuff(0, 30, 1, 1);
        x.stuff(0, 30, 1, 2);
        legislate(x, 0, "");
        legislate(x, 1, "Wm Fm Ky");
        legislate(x, 2, "Jp Mw");
        dueRefused(32, "he has it", NONE, x, () -> x.inTime(0, 0, 0));
        dueRefused(32, "he never had", NONE, x, () -> x.inTime(0, 0, 1));
        x.making(JOIN, 0, 1, 5, 0, 0, false);     // 0
        x.making(JOIN, 2, 0, 5, 0, 0, false);     // 1
        due(32, "the last of two", 1, x.inTime(0, 0, 0));
        due(32, "by the first: he is in the chief's then", 0, x.inTime(0, 1, 1));
        due(32, "by parts he has some", NONE, x.inTime(2, 0, 0));
        x.making(FORM, 0, 1, 4, 0, 1, false);     // 2: knew
        x.making(FORM, 0, 1, 4, 0, 3, false);     // 3: open, told no by ANSWERS 0
        x.making(0, 0, 1, 4, 0, 0, false);        // 4
        due(32, "by LAWS that take", 3, x.inTime(1, 0, 2));
        due(32, "by LAWS that take", NONE, x.inTime(1, 0, 0));
        x.making(WRITE, 0, 1, 3, 0, 0, false);    // 5
        due(32, "the one of two that alone gives it back", 5, x.inTime(1, 0, 4));
        due(32, "two take it: neither alone", NONE, x.inTime(1, 0, 2));
        MarbleLaw y = new MarbleLaw();
        y.stuff(0, 97, 1, 0);
        y.stuff(0, 89, 96, 1);
        y.stuff(0, 83, 1, 2);
        y.making(MIX, 0, 1, 0, 0, 0, false);
        y.making(WRITE, 0, 0, 4, 0, 0, false);
        y.making(JOIN, 0, 2, 0, 0, 0, false);
        legislate(y, 0, "Jp Wm");
        due(32, "too fine without it", NONE, y.inTime(0, 0, 1));
        legislate(y, 1, "Jc Wm");
        due(32, "not too fine without it", 1, y.inTime(1, 0, 1));
        MarbleLaw v = new MarbleLaw();
        v.stuff(0, 10, 1, 0);
        v.making(WRITE, 0, 0, 1, 0, 2, false);
        v.making(WRITE, 0, 0, 2, 0, 0, false);
        legislate(v, 0, "Wm Ky");
        due(32, "ANSWERS 0: by who may have known", 1, v.inTime(0, 0, 1));
        due(32, "ANSWERS 0: the first takes it too", NONE, v.inTime(0, 0, 0));
        int[][] bad = {{4, 0, 0}, {-1, 0, 0}, {3, 3, 0}, {3, -1, 0}, {0, 0, 6}, {3, 0, -1}};
        for (int[] b : bad) dueRefused(32, "inTime", BAD, x, () -> x.inTime(b[0], b[1], b[2]));
        MarbleLaw z = new MarbleLaw();
        z.stuff(0, 1, 1, 0);
        dueFinding(32, "no LAWS", NOTHING, z, () -> z.inTime(3, 0, 0));
    }

    /** 16 STUFFS and 12 MAKINGS: the last ones are asked after by each call that goes through a story. */
    private static void lastStuffAndMaking() {
        MarbleLaw x = new MarbleLaw();
        for (int s = 0; s < 16; s++) x.stuff(1, 10, 10, s % 6);
        for (int m = 0; m < 10; m++) x.making(0, 15, 0, 0, 0, 0, false);
        due(13, "the eleventh", 10, x.making(JOIN, 15, 14, 0, 5, 0, true));
        due(13, "the twelfth", 11, x.making(GROW, 15, 7, 0, 0, 0, false));
        legislate(x, 0, "");
        legislate(x, 1, "Jp Wm");
        x.debt(14, 1);
        x.debt(15, 999);
        due(16, "mark", 1, x.mark(10, JOIN));
        due(20, "inside", 14, x.inside(14, 10));
        due(20, "inside", 15, x.inside(14, 12));
        due(20, "inside", 15, x.inside(15, 12));
        due(21, "WORTH", 25, x.now(14, 12, 1));
        due(21, "AMOUNT", 17, x.now(15, 12, 2));
        due(21, "debts", 1000, x.now(14, 12, 3));
        due(22, "whose", 1, x.whose(1, 14, 12, 0, 2));
        dueFraction(22, "whose", 1, 2, x);
        due(23, "owners", 8, x.owners(0, 15, 12, 15));
        due(23, "owners", 12, x.owners(1, 15, 12, 15));
        due(24, "changes", NONE, x.changes(0, 15, 0, 3));
        due(24, "changes", 10, x.changes(1, 15, 0, 3));
        due(25, "lost", 0, x.lost(1, 10, 0, 2));
        due(25, "lost", 1, x.lost(0, 10, 0, 2));
        dueFraction(25, "lost", 10, 1, x);
        due(26, "beside", 10, x.beside(0, 1, 0));
        due(26, "beside themselves", NONE, x.beside(1, 1, 0));
        dueAsked(27, "undo", 7, x, () -> x.undo(10, 11));
        due(27, "undo", 0, x.undo(10, 12));
        due(28, "sure", 2, x.sure(1, 15, 12, 2));
        due(28, "sure", 0, x.sure(0, 15, 12, 2));
        due(29, "hangs", 0, x.hangs(1, 15, 12, 2));
        due(30, "sly", 3, x.sly(0, 15, 2, 0));
        due(30, "sly", 2, x.sly(1, 15, 2, 0));
        due(31, "stop", 12112, x.stop(0, 15, 2, 0));
        due(31, "stop asked()", 1, x.asked());
        due(32, "inTime", 10, x.inTime(0, 14, 2));
        due(32, "inTime", NONE, x.inTime(1, 14, 2));
    }

    private static void heaps() {
        MarbleLaw x = new MarbleLaw();
        due(33, "heap", 1, x.heap(0, 5, 99));
        due(33, "heap", 1, x.heap(3, 0, 1));
        due(33, "heap", 2, x.heap(0, 5, 1));
        int[][] bad = {{4, 0, 1}, {-1, 0, 1}, {0, 6, 1}, {0, -1, 1}, {0, 0, 0}, {0, 0, 100}, {0, 0, LOW}};
        for (int[] b : bad) dueRefused(33, "heap", BAD, x, () -> x.heap(b[0], b[1], b[2]));
        for (int i = 3; i <= 20; i++) due(33, "heap", i, x.heap(0, i % 6, i));
        dueRefused(33, "the 21st", FULL, x, () -> x.heap(0, 0, 1));
        dueRefused(33, "the 21st, bad", BAD, x, () -> x.heap(0, 0, 100));
        due(33, "another's", 2, x.heap(3, 1, 7));

        due(35, "left(0, 5)", 100 + 5 + 11 + 17, x.left(0, 5));
        due(35, "all", 100 + 207, x.asked());
        due(35, "left(3, 2)", 0, x.left(3, 2));
        due(35, "all", 8, x.asked());
        due(35, "left(1, 0)", 0, x.left(1, 0));
        due(35, "none", 0, x.asked());
        int[][] left = {{4, 0}, {-1, 0}, {0, 6}, {0, -1}};
        for (int[] b : left) dueRefused(35, "left", BAD, x, () -> x.left(b[0], b[1]));

        due(36, "layer(0, 0)", 995, x.layer(0, 0));
        due(36, "layer(0, 19)", 202, x.layer(0, 19));
        due(36, "layer(3, 1)", 71, x.layer(3, 1));
        dueRefused(36, "layer(4, 0)", BAD, x, () -> x.layer(4, 0));
        dueRefused(36, "layer(-1, 0)", BAD, x, () -> x.layer(-1, 0));
        dueFinding(36, "layer(0, 20)", BEYOND, x, () -> x.layer(0, 20));
        dueFinding(36, "layer(3, 2)", BEYOND, x, () -> x.layer(3, 2));
        dueFinding(36, "layer(3, -1)", BEYOND, x, () -> x.layer(3, -1));
        dueFinding(36, "layer(1, 0)", BEYOND, x, () -> x.layer(1, 0));
        due(40, "layers of all", 22, x.count(6));
    }

    private static MarbleLaw heaped(int... layers) {
        MarbleLaw x = new MarbleLaw();
        for (int v : layers) x.heap(2, v % 10, v / 10);
        return x;
    }

    private static void dueDrawn(String what, MarbleLaw x, int person, int n, int rule, int... layers) {
        due(34, what, layers.length, x.draw(2, person, n, rule));
        for (int i = 0; i < layers.length; i++) due(34, what + " layer " + i, layers[i], x.layer(2, i));
        due(34, what + " none more", FINDING, x.layer(2, layers.length));
    }

    private static void drawing() {
        dueDrawn("0, a part", heaped(50, 31, 42), 1, 3, 0, 20, 31, 42);
        dueDrawn("0, just one", heaped(50, 31, 42), 1, 5, 0, 31, 42);
        dueDrawn("0, two", heaped(50, 31, 42), 2, 7, 0, 11, 42);
        dueDrawn("0, all", heaped(50, 31, 42), 2, 12, 0);
        dueDrawn("1, evenly", heaped(40, 21, 42), 5, 5, 1, 20, 11, 22);
        dueDrawn("1, cut", heaped(50, 31, 42), 5, 5, 1, 20, 21, 32);
        dueDrawn("1, of ones", heaped(10, 11, 12, 13), 5, 3, 1, 13);
        dueDrawn("1, one of ones", heaped(10, 11, 12, 13), 5, 1, 1, 11, 12, 13);
        dueDrawn("1, none from those that have none", heaped(10, 20, 991), 5, 101, 1, 11);
        dueDrawn("1, the cuts of each", heaped(10, 20, 71), 5, 8, 1, 21);
        dueDrawn("1, the only one", heaped(13), 5, 1, 1);
        dueDrawn("1, all", heaped(50, 31, 42), 5, 12, 1);
        dueDrawn("1, the big ones", heaped(990, 991, 992, 993), 5, 333, 1, 150, 161, 162, 163);
        dueDrawn("2, no own", heaped(50, 31, 42), 5, 5, 2, 50, 21);
        dueDrawn("2, own last", heaped(50, 31, 42), 2, 5, 2, 30, 42);
        dueDrawn("2, own too, the last ahead", heaped(50, 31, 42, 20), 0, 8, 2, 50, 10);
        dueDrawn("2, own too, the first too", heaped(50, 31, 42, 20), 0, 10, 2, 40);
        dueDrawn("2, own between", heaped(50, 31, 42), 1, 9, 2, 31);
        dueDrawn("2, all", heaped(50, 31, 42), 1, 12, 2);

        MarbleLaw x = heaped(50, 31);
        int[][] bad = {{4, 0, 1, 0}, {-1, 0, 1, 0}, {2, 6, 1, 0}, {2, -1, 1, 0}, {2, 0, 0, 0}, {2, 0, 1000, 0},
            {2, 0, -1, 0}, {2, 0, 1, 3}, {2, 0, 1, -1}};
        for (int[] b : bad) dueRefused(34, "draw", BAD, x, () -> x.draw(b[0], b[1], b[2], b[3]));
        for (int rule = 0; rule < 3; rule++) {
            int r = rule;
            dueFinding(34, "not so many", BEYOND, x, () -> x.draw(2, 0, 9, r));
            dueFinding(34, "not so many", BEYOND, x, () -> x.draw(2, 0, 999, r));
            dueFinding(34, "none there", BEYOND, x, () -> x.draw(1, 0, 1, r));
        }
        MarbleLaw y = new MarbleLaw();
        for (int i = 0; i < 20; i++) y.heap(0, i % 6, 99);
        due(34, "999 of 1980", 20, y.draw(0, 0, 999, 1));
        due(34, "left", 981, y.left(0, 0) + y.left(0, 1) + y.left(0, 2) + y.left(0, 3) + y.left(0, 4) + y.left(0, 5));
        due(34, "the first", 490, y.layer(0, 0));
        due(34, "the last", 501, y.layer(0, 19));
        due(34, "a full HEAP from the last", 20, y.draw(0, 1, 1, 2));
        due(34, "the last is his own", 501, y.layer(0, 19));
        due(34, "the one ahead of it", 480, y.layer(0, 18));
        due(34, "ten layers of 49", 10, y.draw(0, 0, 490, 0));
        due(34, "room again", 11, y.heap(0, 0, 1));
    }

    private static void whatIsTold() {
        MarbleLaw x = new MarbleLaw();
        x.row(0, 2);
        x.lay(0, 0, 5);
        x.at(0, 0);
        due(37, "at", 5, x.asked());
        x.at(0, 2);
        x.at(6, 0);
        due(37, "refused", 5, x.asked());
        x.lay(0, 0, 6);
        due(37, "lay", 5, x.asked());
        x.mean(0);
        due(37, "mean", 3, x.asked());
        x.stuff(1, 2, 3, 4);
        x.stuff(1, 20, 3, 5);
        due(37, "stuff tells nothing", 3, x.asked());
        x.about(0, 1);
        due(37, "about", 2, x.asked());
        x.making(BUILD, 0, 1, 0, 44, 0, true);
        x.told(0, 4);
        due(37, "told", 44, x.asked());
        x.undo(0, 1);
        due(37, "undo", 13, x.asked());
        x.heap(0, 3, 50);
        x.left(0, 4);
        due(37, "left", 50, x.asked());
        x.making(0, 0, 0, 0, 0, 0, false);
        x.undo(1, 2);
        due(37, "undo 0", 50, x.asked());
        legislate(x, 0, "Fm");
        x.stop(0, 0, 0, 0);
        due(37, "stop", 1, x.asked());
        x.stop(0, 0, 4, 0);
        due(37, "stop NONE", 1, x.asked());

        dueFraction(38, "before", 0, 1, x);
        x.lost(0, 0, 0, 5);
        dueFraction(38, "lost", 20, 1, x);
        x.owners(0, 0, 1, 0);
        x.sure(0, 0, 1, 0);
        dueFraction(38, "no fraction told", 20, 1, x);
        x.lost(0, 0, 0, 4);
        dueFraction(39, "gained", -20, 1, x);
        x.whose(0, 0, 0, 0, 3);
        dueFraction(39, "none", 0, 1, x);
        x.whose(0, 0, 0, 0, 4);
        x.whose(0, 0, 0, 0, 6);
        x.whose(1, 0, 0, 0, 3);
        dueFraction(39, "all", 1, 1, x);

        MarbleLaw y = new MarbleLaw();
        fill(y, 0, 1);
        fill(y, 4, 1);
        y.text(2, 3);
        for (int i = 0; i < 5; i++) y.stuff(0, 1, 1, 0);
        for (int kind = 0; kind < 7; kind++) y.making(kind, 0, 1, 0, 0, 0, false);
        legislate(y, 1, "");
        y.heap(0, 0, 1);
        y.heap(1, 0, 1);
        y.heap(1, 0, 1);
        int[] counts = {2, 2, 5, 7, 3, 1, 3};
        for (int what = 0; what < 7; what++) due(40, "count(" + what + ")", counts[what], y.count(what));
        dueRefused(40, "count(7)", BAD, y, () -> y.count(7));
        dueRefused(40, "count(-1)", BAD, y, () -> y.count(-1));

        MarbleLaw z = new MarbleLaw();
        z.row(0, -1);
        z.row(0, -1);
        due(41, "SIZE", SIZE, z.finding());
        z.tear(0);
        due(41, "NOTHING", NOTHING, z.finding());
        z.row(9, 0);
        z.row(0, 0);
        due(41, "none since", NOTHING, z.finding());
        z.mean(0);
        due(41, "NOUGHT", NOUGHT, z.finding());
        z.at(0, 0);
        due(41, "BEYOND", BEYOND, z.finding());
        z.stuff(0, 1, 1, 0);
        z.making(0, 0, 0, 0, 0, 0, false);
        z.mark(0, 1);
        due(41, "UNLIKE", UNLIKE, z.finding());
        int[] found = {1, 1, 1, 1, 2};
        for (int f = 1; f <= 5; f++) due(42, "findings(" + f + ")", found[f - 1], z.findings(f));
        dueRefused(42, "findings(0)", BAD, z, () -> z.findings(0));
        dueRefused(42, "findings(6)", BAD, z, () -> z.findings(6));
        dueRefused(42, "findings(-1)", BAD, z, () -> z.findings(-1));
    }

    private static long hashed(int... values) {
        long h = 17;
        for (int v : values) h = 31 * h + v;
        return h;
    }

    private static void digest() {
        MarbleLaw x = new MarbleLaw();
        due(43, "of a new one", hashed(0, 0, 0, 0, 0, 0, 0, -1, -1, -1, -1, 0, 0, 0, 0,
                -1, -1, -1, -1, -1, -1, -1, -1, -1, -1), x.digest());
        fill(x, 1, 7, -8);
        x.row(4, 0);
        x.stuff(1, 2, 3, 4);
        x.stuff(5, 6, 7, 0);
        x.debt(1, 9);
        x.making(BUILD, 1, 0, 2, 3, 4, true);
        x.making(WRITE, 0, 5, 1, 2, 0, true);
        write(x, 1, "Ky");
        x.laws(2, 1);
        x.put(1, 1, 200);
        x.heap(3, 2, 11);
        x.heap(3, 0, 12);
        due(43, "of some", hashed(2, 1, 2, 2, 2, 1, 2, 1, 2, 3, 4, 0, 5, 6, 7, 0, 9, 5, 1, 0, 2, 3, 4, 1,
                4, 0, 0, 1, 2, 0, 0, -1, -1, 11111, -1, 0, 0, 0, 2, 112, 120,
                -1, 2, 7, -8, -1, -1, 0, -1, -1, 2, 75, -56, -1, -1), x.digest());
        x.at(1, 0);
        x.tear(0);
        due(43, "asked(), findings() are not in it", x.digest(), x.digest());
    }

    /** LANGUAGE.md, rule 7: no call throws, for any numbers, in an empty object and in a full one. */
    private static void anyNumbers() {
        int[] odd = {LOW, -1000, -9, -1, 0, 1, 2, 5, 6, 7, 11, 12, 15, 16, 19, 20, 39, 40, 41, 99, 100, 1000, HIGH};
        for (int full = 0; full < 2; full++) {
            MarbleLaw x = full == 0 ? new MarbleLaw() : fine();
            for (int a : odd) {
                x.row(a, -1); x.tear(a); x.mean(a); x.text(a, -1); x.stuffs(a); x.fault(a); x.law(a);
                x.count(a); x.findings(a);
                for (int b : odd) {
                    x.row(a, b); x.at(a, b); x.text(a, b); x.debt(a, b); x.about(a, b); x.told(a, b); x.mark(a, b);
                    x.laws(a, b); x.inside(a, b); x.undo(a, b); x.left(a, b); x.layer(a, b);
                    for (int c : odd) {
                        x.lay(a, b, c); x.put(a, b, c); x.now(a, b, c); x.beside(a, b, c); x.inTime(a, b, c);
                        x.heap(a, b, c); x.draw(a, b, c, a); x.copy(a, b, b, c, c); x.copy(0, a, 1, b, c);
                        x.stuff(a, b, c, a); x.making(a, b, c, a, b, c, true); x.whose(0, a, b, c, 1);
                        x.owners(0, a, b, c); x.changes(0, a, b, c); x.lost(0, a, b, c); x.sure(a, b, c, 1);
                        x.hangs(0, a, b, c); x.sly(0, a, b, c); x.stop(a, b, c, 0);
                    }
                }
            }
            due(43, "a digest at the end", x.digest(), x.digest());
        }
    }
}
