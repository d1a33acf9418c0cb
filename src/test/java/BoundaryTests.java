import java.io.IOException;
import java.nio.file.Files;
import java.nio.file.Path;
import java.util.ArrayList;
import java.util.List;
import java.util.function.Supplier;
import java.util.function.ToLongFunction;

/**
 * Each sentence of the document has a test of its own here: the boundary case that it names, what is
 * just inside of it, and what is just outside. A test begins with the sentence, word for word; at the
 * end it is looked after that the sentences are the document's, and that none is left without a test.
 * Run it in the project's folder.
 */
public final class BoundaryTests {
    private static final int BAD = -1, FULL = -2, FINDING = -3, STATE = -4, NONE = -9;
    private static final int NOTHING = 1, BEYOND = 2, UNLIKE = 3, NOUGHT = 4, SIZE = 5;
    private static final int NOTE = 0, FORM = 1, JOIN = 2, MIX = 3, WRITE = 4, BUILD = 5, GROW = 6;
    private static final int LOW = Integer.MIN_VALUE, HIGH = Integer.MAX_VALUE;
    private static final int ABOUT = -1, TERMS = 0;

    private static final List<Integer> sections = new ArrayList<>();
    private static final List<String> sentences = new ArrayList<>();
    private static int wrong = 0;
    private static int answers = 0;

    private interface Numbered {
        long of(MarbleLaw x, int v);
    }

    public static void main(String[] args) throws IOException {
        calls();
        refusals();
        fractionsAndSets();
        rowsTextsPersons();
        stuffsAndMakings();
        kinds();
        insideOthers();
        lawsByTexts();
        partsByLaws();
        answersAndFineParts();
        debtsAndLosses();
        partingsAndSurety();
        slyStopInTime();
        heapsAndDrawing();
        promises1To9();
        promises10To16();
        promises17To21();
        promises22To26();
        promises27To32();
        promises33To36();
        promises37To43();
        everySentenceHasATest();
        System.out.println(wrong == 0 ? sentences.size() + " sentences, " + answers + " answers are as due"
                : wrong + " answers are not as due");
        if (wrong != 0) System.exit(1);
    }

    // ---- how a test is told

    /** The test of a sentence begins: of the promise with that number, or of ABOUT, TERMS. */
    private static void sentence(int section, String words) {
        sections.add(section);
        sentences.add(words);
    }

    private static void due(String what, long want, long got) {
        answers++;
        if (got == want) return;
        wrong++;
        System.out.println("'" + sentences.get(sentences.size() - 1) + "': " + what + " answered " + got
                + ", due is " + want);
    }

    private static long[] seen(MarbleLaw x) {
        return new long[] {x.digest(), x.asked(), x.upper(), x.lower(), x.finding(), x.findings(1), x.findings(2),
            x.findings(3), x.findings(4), x.findings(5)};
    }

    /** Answered so, and all is as before (told by NONE, by 0, or refused without a FINDING). */
    private static void quiet(String what, int answer, MarbleLaw x, ToLongFunction<MarbleLaw> call) {
        long[] before = seen(x);
        due(what, answer, call.applyAsLong(x));
        long[] after = seen(x);
        for (int i = 0; i < before.length; i++) due(what + ", seen " + i, before[i], after[i]);
    }

    private static void bad(String what, MarbleLaw x, ToLongFunction<MarbleLaw> call) {
        quiet(what, BAD, x, call);
    }

    /** Refused by that FINDING, which is counted once; all else is as before. */
    private static void finds(String what, int f, MarbleLaw x, ToLongFunction<MarbleLaw> call) {
        long[] before = seen(x);
        due(what, FINDING, call.applyAsLong(x));
        long[] after = seen(x);
        before[4] = f;
        before[4 + f]++;
        for (int i = 0; i < before.length; i++) due(what + ", seen " + i, before[i], after[i]);
    }

    private static void tells(String what, int asked, MarbleLaw x, ToLongFunction<MarbleLaw> call) {
        due(what, 1, call.applyAsLong(x));
        due(what + " asked()", asked, x.asked());
    }

    private static void fraction(String what, long upper, long lower, MarbleLaw x) {
        due(what + " upper()", upper, x.upper());
        due(what + " lower()", lower, x.lower());
    }

    /** A number from one to another: both and what is just inside are taken, what is outside is BAD. */
    private static void range(String what, int from, int to, Supplier<MarbleLaw> world, Numbered call) {
        for (int v : new int[] {from, Math.min(from + 1, to), Math.max(to - 1, from), to}) {
            due(what + " " + v + " is taken", 0, call.of(world.get(), v) == BAD ? BAD : 0);
        }
        for (int v : new int[] {from - 1, to + 1, LOW, HIGH}) {
            bad(what + " " + v, world.get(), x -> call.of(x, v));
        }
    }

    private static void range(String what, int from, int to, Numbered call) {
        range(what, from, to, BoundaryTests::world, call);
    }

    /** A place from 0 on, of so many: outside it is BEYOND. */
    private static void places(String what, int size, Supplier<MarbleLaw> world, Numbered call) {
        for (int v : new int[] {0, size - 1}) {
            if (v >= 0 && size > 0) due(what + " " + v + " is there", 1, call.of(world.get(), v) >= 0 ? 1 : 0);
        }
        for (int v : new int[] {-1, size, LOW, HIGH}) finds(what + " " + v, BEYOND, world.get(), x -> call.of(x, v));
    }

    // ---- worlds

    private static int write(MarbleLaw x, int t, String words) {
        x.text(t, words.length());
        for (int i = 0; i < words.length(); i++) x.put(t, i, words.charAt(i));
        return t;
    }

    private static int legislate(MarbleLaw x, int l, String words) {
        return x.laws(l, write(x, 3, words));
    }

    private static void fill(MarbleLaw x, int r, int... values) {
        x.row(r, values.length);
        for (int i = 0; i < values.length; i++) x.lay(r, i, values[i]);
    }

    private static MarbleLaw stuffs(int... owners) {
        MarbleLaw x = new MarbleLaw();
        for (int o : owners) x.stuff(1, 10, 10, o);
        return x;
    }

    /**
     * Something of everything, and something missing: three STUFFS, two MAKINGS, LAWS 0 and 1, ROWS 0
     * and 1 (empty), TEXTS 0, 1 (empty) and 3, two layers on HEAP 0. All that is told last is not 0.
     */
    private static MarbleLaw world() {
        MarbleLaw x = new MarbleLaw();
        x.stuff(1, 20, 10, 0);
        x.stuff(1, 30, 40, 1);
        x.stuff(2, 7, 7, 2);
        x.debt(2, 5);
        x.making(MIX, 0, 1, 5, 9, 0, false);
        x.making(JOIN, 2, 1, 4, 3, 2, true);
        legislate(x, 0, "");
        legislate(x, 1, "Jp Fm Wm Ky");
        fill(x, 0, 7, 8, 9);
        x.row(1, 0);
        x.text(0, 4);
        x.text(1, 0);
        x.heap(0, 3, 50);
        x.heap(0, 4, 20);
        x.whose(0, 0, 1, 0, 0);
        x.at(0, 9);
        x.at(0, 0);
        return x;
    }

    private static MarbleLaw fullOfStuffs(int n) {
        MarbleLaw x = new MarbleLaw();
        for (int s = 0; s < n; s++) x.stuff(s % 10, 1 + s, 1 + s, s % 6);
        return x;
    }

    private static MarbleLaw fullOfMakings(int n) {
        MarbleLaw x = stuffs(0, 1);
        x.stuff(2, 10, 10, 2);
        for (int m = 0; m < n; m++) x.making(NOTE, 0, 0, 0, 0, 0, false);
        return x;
    }

    private static MarbleLaw heaped(int... layers) {
        MarbleLaw x = new MarbleLaw();
        for (int v : layers) x.heap(2, v % 10, v / 10);
        return x;
    }

    /** By LAWS 0 (J p) the thing of the first four STUFFS has this lower number behind 3 MAKINGS; STUFF 4 is apart. */
    private static MarbleLaw fine(int lower) {
        MarbleLaw x = new MarbleLaw();
        // 1 of so many by AMOUNT; then 2 of so many by WORTH, of which the second have one owner.
        int[] of = lower == 9999 ? new int[] {99, 101} : lower == 10000 ? new int[] {100, 200} : new int[] {73, 137};
        x.stuff(0, 1, 1, 0);
        x.stuff(0, 1, of[0] - 1, 1);
        x.stuff(0, of[1] - 2 - (of[1] - 2) / 2, 1, 2);
        x.stuff(0, (of[1] - 2) / 2, 1, 2);
        x.stuff(1, 1, 1, 5);
        legislate(x, 0, "Jp");
        legislate(x, 1, "Jc");
        x.making(MIX, 0, 1, 0, 0, 0, false);
        x.making(MIX, 2, 3, 0, 0, 0, false);
        x.making(JOIN, 0, 2, 0, 0, 0, false);
        return x;
    }

    // ---- what it is, terms

    private static void calls() {
        sentence(ABOUT, "An object is used for at most 512 calls after it has been made; what later calls answer is free.");
        MarbleLaw x = new MarbleLaw();
        x.row(0, 1);
        for (int call = 2; call <= 510; call++) x.lay(0, 0, call);
        due("the 511th call", 1, x.at(0, 0));
        due("the 512th call", 510, x.asked());
        MarbleLaw y = new MarbleLaw();
        for (int call = 1; call <= 511; call++) due("call " + call, FINDING, y.tear(0));
        due("the 512th call", 511, y.findings(NOTHING));
        for (int call = 513; call <= 2000; call++) y.tear(0);
        due("later calls end, too", y.digest(), y.digest());
    }

    private static void refusals() {
        sentence(TERMS, "Refused is, the first of these that fits, in this order: BAD -1 (a number that is none, or not as"
                + " told), FULL -2, STATE -4 (not now), SPENT -6 (more than told), FINDING -3 (finding() tells which),"
                + " unless a call says so otherwise.");
        due("BAD", -1, MarbleLaw.BAD);
        due("FULL", -2, MarbleLaw.FULL);
        due("FINDING", -3, MarbleLaw.FINDING);
        due("STATE", -4, MarbleLaw.STATE);
        due("SPENT", -6, MarbleLaw.SPENT);
        bad("row: BAD ahead of SIZE", world(), x -> x.row(6, -1));
        bad("text: BAD ahead of SIZE", world(), x -> x.text(4, -1));
        bad("lay: BAD ahead of BEYOND", world(), x -> x.lay(6, -1, 0));
        bad("put: BAD ahead of BEYOND", world(), x -> x.put(-1, -1, 0));
        bad("copy: BAD ahead of SIZE", world(), x -> x.copy(0, 0, 6, 0, -1));
        bad("stuff: BAD ahead of FULL", fullOfStuffs(16), x -> x.stuff(0, 0, 1, 0));
        bad("making: BAD ahead of FULL", fullOfMakings(12), x -> x.making(NOTE, 0, 0, 0, 100, 0, false));
        quiet("making: FULL ahead of UNLIKE", FULL, fullOfMakings(12), x -> x.making(MIX, 0, 2, 0, 0, 0, false));
        bad("making: BAD ahead of UNLIKE", fullOfMakings(11), x -> x.making(MIX, 0, 2, 6, 0, 0, false));
        bad("mark: BAD ahead of UNLIKE", world(), x -> x.mark(0, 7));
        bad("laws: BAD ahead of NOTHING", world(), x -> x.laws(4, 2));
        bad("whose: BAD ahead of NOTHING", world(), x -> x.whose(3, 0, 0, 16, 0));
        bad("whose: BAD ahead of SIZE", fine(10001), x -> x.whose(0, 0, 3, 0, 6));
        bad("owners: BAD ahead of NOTHING", world(), x -> x.owners(3, 3, 0, 0));
        bad("changes: BAD ahead of NOTHING", world(), x -> x.changes(3, 0, 0, 6));
        bad("lost: BAD ahead of NOTHING", world(), x -> x.lost(3, 2, 0, 0));
        bad("beside: BAD ahead of NOTHING", world(), x -> x.beside(3, 4, 0));
        bad("sure: BAD ahead of NOTHING", world(), x -> x.sure(3, 0, 3, 0));
        bad("hangs: BAD ahead of NOTHING", world(), x -> x.hangs(3, 0, 0, -1));
        bad("sly: BAD ahead of NOTHING", world(), x -> x.sly(3, 0, 0, 100));
        bad("stop: BAD ahead of SIZE", fine(10001), x -> x.stop(0, 0, 0, -1));
        bad("inTime: BAD ahead of SIZE", fine(10001), x -> x.inTime(0, 5, 0));
        finds("beside: NOTHING ahead of SIZE", NOTHING, fine(10001), x -> x.beside(0, 3, 0));
        MarbleLaw full = heaped();
        for (int i = 0; i < 20; i++) full.heap(0, 0, 1);
        bad("heap: BAD ahead of FULL", full, x -> x.heap(0, 6, 1));
        bad("draw: BAD ahead of BEYOND", full, x -> x.draw(0, 0, 21, 3));
        bad("layer: BAD ahead of BEYOND", full, x -> x.layer(4, 20));

        sentence(TERMS, "NONE -9.");
        due("NONE", -9, MarbleLaw.NONE);
        quiet("no FAULT", NONE, world(), x -> x.fault(0));
        quiet("no change", NONE, world(), x -> x.changes(0, 2, 0, 5));
        quiet("no parting of LAWS", NONE, world(), x -> x.beside(0, 0, 0));
        quiet("no sly MAKING", NONE, world(), x -> x.sly(0, 0, 5, 99));
        quiet("no stop", NONE, stuffsWithLaws("", 0), x -> x.stop(0, 0, 0, 0));
        quiet("not in time", NONE, world(), x -> x.inTime(0, 0, 5));

        sentence(TERMS, "What is refused changes nothing but finding(), findings().");
        MarbleLaw w = world();
        long digest = w.digest();
        due("BAD", BAD, w.lay(6, 0, 1));
        due("finding() stays", BEYOND, w.finding());
        due("findings() stay", 1, w.findings(BEYOND));
        due("FINDING", FINDING, w.lay(5, 0, 1));
        due("finding() tells it", NOTHING, w.finding());
        due("findings() counts it", 1, w.findings(NOTHING));
        due("findings() of others stay", 1, w.findings(BEYOND));
        due("STATE", STATE, w.laws(0, write(w, 3, "Fx")));
        due("LAWS stay", 11112, w.law(0));
        write(w, 3, "Jp Fm Wm Ky");
        due("all stays", digest, w.digest());
        due("asked() stays", 7, w.asked());
        fraction("all stays", 1, 5, w);

        sentence(TERMS, "FINDINGS: 1 NOTHING (a ROW, a TEXT, LAWS that are missing), 2 BEYOND (a place that there is not),"
                + " 3 UNLIKE (a MAKING of another KIND; STUFFS not alike; a number that is none), 4 NOUGHT (shared among"
                + " none), 5 SIZE (fewer than none; not as many as due; a part that is too fine).");
        finds("a ROW", NOTHING, world(), x -> x.at(5, 0));
        finds("a TEXT", NOTHING, world(), x -> x.put(2, 0, 0));
        finds("LAWS", NOTHING, world(), x -> x.law(3));
        finds("a place", BEYOND, world(), x -> x.at(0, 3));
        finds("a layer", BEYOND, world(), x -> x.layer(0, 2));
        finds("another KIND", UNLIKE, world(), x -> x.mark(0, FORM));
        finds("not alike", UNLIKE, world(), x -> x.making(MIX, 0, 2, 0, 0, 0, false));
        MarbleLaw none = world();
        fill(none, 2, 1, 1, 1, 6);
        finds("a number", UNLIKE, none, x -> x.stuffs(2));
        finds("among none", NOUGHT, world(), x -> x.mean(1));
        finds("fewer than none", SIZE, world(), x -> x.row(0, -1));
        finds("not as many", SIZE, world(), x -> x.stuffs(0));
        finds("too fine", SIZE, fine(10001), x -> x.owners(0, 0, 3, 0));
    }

    private static MarbleLaw stuffsWithLaws(String words, int... owners) {
        MarbleLaw x = stuffs(owners);
        legislate(x, 0, words);
        return x;
    }

    private static void fractionsAndSets() {
        sentence(TERMS, "Fractions are told by upper() (may be below 0) and lower(), in lowest terms, the lower number above"
                + " 0 (0 by 1).");
        MarbleLaw x = new MarbleLaw();
        fraction("before", 0, 1, x);
        x.stuff(0, 20, 10, 0);
        x.stuff(0, 30, 30, 1);
        legislate(x, 0, "");
        x.making(MIX, 0, 1, 0, 0, 0, false);
        x.whose(0, 0, 1, 0, 0);
        fraction("10 by 40", 1, 4, x);
        x.whose(0, 0, 1, 0, 5);
        fraction("0", 0, 1, x);
        x.whose(0, 0, 0, 0, 0);
        fraction("all", 1, 1, x);
        x.lost(0, 0, 0, 0);
        fraction("lost 20 less 50 by 4", 15, 2, x);
        x.lost(0, 0, 0, 1);
        fraction("gained", -15, 2, x);
        x.lost(0, 0, 0, 2);
        fraction("neither", 0, 1, x);

        sentence(TERMS, "Sets are told by bits.");
        for (int p = 0; p < 6; p++) {
            MarbleLaw one = stuffsWithLaws("", p);
            due("PERSON " + p, 1 << p, one.owners(0, 0, 0, 0));
        }
        MarbleLaw all = stuffsWithLaws("", 0, 1, 2, 3, 4, 5);
        for (int s = 1; s < 6; s++) all.making(MIX, 0, s, 0, 0, 0, false);
        due("all PERSONS", 63, all.owners(0, 0, 5, 0));
        due("all but the last", 31, all.owners(0, 0, 4, 0));
        due("none above PERSON 5, though PERSON 0 has the next STUFF", 32, stuffsWithLaws("", 5, 0).owners(0, 0, 0, 0));
        due("no question", 0, all.hangs(0, 0, 5, 0));
        for (int q = 0; q < 4; q++) {
            MarbleLaw one = stuffsWithLaws("Wm Ky", 0);
            one.making(WRITE, 0, 0, 1, 0, 2 + q, false);
            due("question " + q, 1 << q, one.hangs(0, 0, 1, 1));
        }
    }

    private static void rowsTextsPersons() {
        sentence(TERMS, "ROWS 0 .. 5 are rows of 0 to 40 ints, TEXTS 0 .. 3 rows of 0 to 40 bytes, or missing (at first).");
        for (int r = 0; r < 6; r++) {
            int row = r;
            finds("ROW " + r + " at first", NOTHING, new MarbleLaw(), x -> x.at(row, 0));
        }
        for (int t = 0; t < 4; t++) {
            int text = t;
            finds("TEXT " + t + " at first", NOTHING, new MarbleLaw(), x -> x.fault(text));
        }
        for (int r : new int[] {0, 5}) {
            for (int n : new int[] {0, 1, 39, 40}) {
                int row = r, last = n - 1;
                MarbleLaw x = new MarbleLaw();
                due("ROW " + r, n, x.row(r, n));
                finds("behind its last place", BEYOND, x, y -> y.lay(row, last + 1, 1));
                if (n > 0) tells("its last place", 0, x, y -> y.lay(row, last, HIGH));
                if (n > 0) tells("holds any int", HIGH, x, y -> y.lay(row, last, LOW));
                if (n > 0) tells("holds any int", LOW, x, y -> y.at(row, last));
            }
        }
        for (int t : new int[] {0, 3}) {
            for (int n : new int[] {0, 1, 39, 40}) {
                int text = t, last = n - 1;
                MarbleLaw x = new MarbleLaw();
                due("TEXT " + t, n, x.text(t, n));
                finds("behind its last byte", BEYOND, x, y -> y.put(text, last + 1, 1));
                if (n > 0) due("its last byte", 1032, x.put(t, last, 1));
            }
        }
        range("ROWS", 0, 5, (x, v) -> x.row(v, 1));
        range("TEXTS", 0, 3, (x, v) -> x.text(v, 1));

        sentence(TERMS, "PERSONS are 0 .. 5.");
        range("OWNER", 0, 5, (x, v) -> x.stuff(1, 1, 1, v));
        range("MAKER", 0, 5, (x, v) -> x.making(NOTE, 0, 0, v, 0, 0, false));
        range("whose", 0, 5, (x, v) -> x.whose(0, 0, 0, 0, v));
        range("changes", 0, 5, (x, v) -> x.changes(0, 0, 0, v));
        range("lost", 0, 5, (x, v) -> x.lost(0, 0, 0, v));
        range("sure", 0, 5, (x, v) -> x.sure(0, 0, 0, v));
        range("hangs", 0, 5, (x, v) -> x.hangs(0, 0, 0, v));
        range("sly", 0, 5, (x, v) -> x.sly(0, 0, v, 0));
        range("stop", 0, 5, (x, v) -> x.stop(0, 0, v, 0));
        range("inTime", 0, 5, (x, v) -> x.inTime(0, 0, v));
        range("heap", 0, 5, (x, v) -> x.heap(0, v, 1));
        range("draw", 0, 5, (x, v) -> x.draw(0, v, 1, 0));
        range("left", 0, 5, (x, v) -> x.left(0, v));
    }

    private static void stuffsAndMakings() {
        sentence(TERMS, "STUFFS 0, 1, .. (16 at most ever) are of a SORT (0 .. 9), have a WORTH (1 .. 99 at first), an AMOUNT"
                + " (1 .. 99 at first), a first OWNER.");
        MarbleLaw x = fullOfStuffs(14);
        due("the 15th", 14, x.stuff(1, 1, 1, 1));
        due("the 16th", 15, x.stuff(1, 1, 1, 1));
        quiet("the 17th", FULL, x, y -> y.stuff(1, 1, 1, 1));
        range("SORT", 0, 9, (y, v) -> y.stuff(v, 1, 1, 0));
        range("WORTH", 1, 99, (y, v) -> y.stuff(0, v, 1, 0));
        range("AMOUNT", 1, 99, (y, v) -> y.stuff(0, 1, v, 0));
        MarbleLaw high = new MarbleLaw();
        high.stuff(9, 99, 99, 5);
        high.making(GROW, 0, 1, 0, 1, 0, false);
        due("WORTH above 99 later", 100, high.now(0, 1, 1));
        due("AMOUNT above 99 later", 100, high.now(0, 1, 2));
        tells("its first WORTH", 99, high, y -> y.about(0, 1));
        tells("its first AMOUNT", 99, high, y -> y.about(0, 2));
        tells("its first OWNER", 5, high, y -> y.about(0, 3));

        sentence(TERMS, "MAKINGS 0, 1, .. (12 at most ever) come one behind the other, each behind all that are told ahead of"
                + " it; those of the first m are DONE in a story of m.");
        MarbleLaw m = fullOfMakings(10);
        due("the 11th", 10, m.making(NOTE, 0, 0, 0, 0, 0, false));
        due("the 12th", 11, m.making(WRITE, 0, 0, 0, 7, 0, false));
        quiet("the 13th", FULL, m, y -> y.making(NOTE, 0, 0, 0, 0, 0, false));
        due("a story of 11", 10, m.now(0, 11, 1));
        due("a story of 12", 17, m.now(0, 12, 1));
        bad("a story of 13", m, y -> y.now(0, 13, 1));
        due("a story of none", 10, m.now(0, 0, 1));
        bad("a story of fewer than none", m, y -> y.now(0, -1, 1));
        range("inside, a story", 0, 2, (y, v) -> y.inside(0, v));
        range("now, a story", 0, 2, (y, v) -> y.now(0, v, 0));
        range("whose, a story", 0, 2, (y, v) -> y.whose(0, 0, v, 0, 0));
        range("owners, a story", 0, 2, (y, v) -> y.owners(0, 0, v, 0));
        range("sure, a story", 0, 2, (y, v) -> y.sure(0, 0, v, 0));
        range("hangs, a story", 0, 2, (y, v) -> y.hangs(0, 0, v, 0));
        range("undo, a story", 1, 2, (y, v) -> y.undo(0, v));
        MarbleLaw order = stuffsWithLaws("Fg", 0);
        order.making(WRITE, 0, 0, 2, 5, 0, false);
        order.making(FORM, 0, 3, 1, 15, 0, false);
        due("FORM behind the WRITE: no more than 15", 1, order.owners(0, 0, 2, 0));
        MarbleLaw other = stuffsWithLaws("Fg", 0);
        other.making(FORM, 0, 3, 1, 15, 0, false);
        other.making(WRITE, 0, 0, 2, 5, 0, false);
        due("FORM ahead of the WRITE: more than 10", 2, other.owners(0, 0, 2, 0));
    }

    private static void kinds() {
        sentence(TERMS, "KINDS of MAKINGS: 0 MAKING (a note), 1 FORM (a MAKING: a STUFF becomes another SORT), 2 JOIN (a"
                + " MAKING: one STUFF comes to a CHIEF one), 3 MIX (a MAKING: one comes to another one of its SORT, as told at"
                + " first), 4 WRITE (a JOIN: on a STUFF, none comes), 5 BUILD (a JOIN), 6 GROW (a MAKING: a STUFF grows by an"
                + " AMOUNT).");
        range("KIND", 0, 6, (x, v) -> x.making(v, 0, 1, 0, 0, 0, false));
        for (int kind = 0; kind <= 6; kind++) {
            MarbleLaw x = stuffs(0, 1);
            x.making(kind, 0, 1, 0, 0, 0, false);
            due("comes by KIND " + kind, kind == JOIN || kind == MIX || kind == BUILD ? 0 : 1, x.inside(1, 1));
            due("SORT by KIND " + kind, 1, x.now(0, 1, 0));
            due("AMOUNT by KIND " + kind, kind == MIX ? 20 : kind == GROW ? 11 : 10, x.now(0, 1, 2));
            boolean join = kind == JOIN || kind == WRITE || kind == BUILD;
            due("a JOIN is KIND " + kind, join ? 1 : 0, x.count(4));
            due("is a JOIN, KIND " + kind, join ? 1 : 0, x.mark(0, JOIN) == FINDING ? 0 : 1);
        }
        MarbleLaw f = stuffs(0, 1);
        f.stuff(2, 10, 10, 2);
        f.making(FORM, 0, 2, 0, 0, 0, false);
        due("another SORT", 2, f.now(0, 1, 0));
        finds("MIX of what became alike", UNLIKE, f, x -> x.making(MIX, 0, 2, 0, 0, 0, false));
        due("MIX of what were alike at first", 1, f.making(MIX, 0, 1, 0, 0, 0, false));
        f.making(JOIN, 2, 0, 0, 0, 0, false);
        due("MIX in one that is of another SORT", 3, f.making(MIX, 1, 0, 0, 0, 0, false));

        sentence(TERMS, "Each has a STUFF s (CHIEF), JOIN, BUILD, MIX another one t, a MAKER (a PERSON), WORK (0 .. 99), and"
                + " whether he KNEW: 0 no, 1 yes, 2 .. 5 open (a question 0 .. 3).");
        Supplier<MarbleLaw> alike = () -> stuffs(0, 1, 2);
        for (int kind = 0; kind <= 6; kind++) {
            int k = kind;
            boolean two = kind == JOIN || kind == MIX || kind == BUILD;
            int v = two ? 1 : 3;
            range("s by KIND " + kind, 0, 2, alike, (x, s) -> x.making(k, s, two && s == 1 ? 0 : v, 0, 0, 0, false));
            range("WORK by KIND " + kind, 0, 99, alike, (x, w) -> x.making(k, 0, v, 0, w, 0, false));
            range("KNEW by KIND " + kind, 0, 5, alike, (x, w) -> x.making(k, 0, v, 0, 0, w, false));
            range("MAKER by KIND " + kind, 0, 5, alike, (x, w) -> x.making(k, 0, v, w, 0, 0, false));
            if (two) range("t by KIND " + kind, 0, 1, alike, (x, t) -> x.making(k, 2, t, 0, 0, 0, false));
            if (two) range("t by KIND " + kind, 1, 2, alike, (x, t) -> x.making(k, 0, t, 0, 0, 0, false));
            if (two) bad("t is s by KIND " + kind, alike.get(), x -> x.making(k, 1, 1, 0, 0, 0, false));
        }
        for (int knew = 0; knew <= 5; knew++) {
            for (int bits = 0; bits < 16; bits++) {
                MarbleLaw x = stuffsWithLaws("Wm Ky", 0);
                x.making(WRITE, 0, 0, 1, 0, knew, false);
                boolean did = knew == 1 || knew > 1 && (bits >> (knew - 2)) % 2 == 1;
                due("KNEW " + knew + " by ANSWERS " + bits, did ? 1 : 2, x.owners(0, 0, 1, bits));
            }
        }

        sentence(TERMS, "JOIN, BUILD can be PARTED, or not.");
        for (int kind = 0; kind <= 6; kind++) {
            MarbleLaw x = stuffs(0, 1);
            x.making(kind, 0, 1, 0, 0, 0, true);
            x.making(kind, 0, 1, 0, 0, 0, false);
            int can = kind == JOIN || kind == BUILD ? 1 : 0;
            tells("can be, by KIND " + kind, can, x, y -> y.told(0, 6));
            tells("can not be, by KIND " + kind, 0, x, y -> y.told(1, 6));
            due("is, by KIND " + kind, can, x.undo(0, 1));
        }
    }

    private static void insideOthers() {
        sentence(TERMS, "A STUFF t that came to s is IN s from then on (and in what s came to).");
        MarbleLaw x = stuffs(0, 1, 2, 3);
        x.making(JOIN, 1, 2, 0, 0, 0, false);
        x.making(NOTE, 1, 0, 0, 0, 0, false);
        x.making(BUILD, 0, 1, 0, 0, 0, false);
        x.making(MIX, 3, 0, 0, 0, 0, false);
        int[] of2 = {2, 1, 1, 0, 3}, of1 = {1, 1, 1, 0, 3}, of0 = {0, 0, 0, 0, 3};
        for (int m = 0; m <= 4; m++) {
            due("t behind " + m, of2[m], x.inside(2, m));
            due("s behind " + m, of1[m], x.inside(1, m));
            due("what s came to behind " + m, of0[m], x.inside(0, m));
            due("the last behind " + m, 3, x.inside(3, m));
        }
        MarbleLaw chain = fullOfStuffs(16);
        for (int m = 0; m < 12; m++) chain.making(BUILD, m + 1, m, 0, 0, 0, false);
        due("twelve deep", 12, chain.inside(0, 12));
        due("eleven deep", 11, chain.inside(0, 11));

        sentence(TERMS, "A MAKING of STUFFS that are IN others does it to those in which they are at last; JOIN, BUILD, MIX of"
                + " two that are in one then: only WORK comes to it.");
        MarbleLaw y = new MarbleLaw();
        for (int s = 0; s < 4; s++) y.stuff(s == 0 ? 7 : 1, 10, 10 + s, s);
        legislate(y, 0, "Fm Jp Mw Wm");
        y.making(JOIN, 1, 2, 5, 1, 0, false);
        y.making(BUILD, 0, 1, 5, 1, 0, false);
        due("as they are: SORT", 7, y.now(2, 2, 0));
        due("as they are: WORTH", 32, y.now(2, 2, 1));
        due("as they are: PARTS", 1, y.owners(0, 2, 2, 0));
        y.making(FORM, 2, 3, 4, 0, 0, false);
        due("FORM of the one in which it is", 3, y.now(0, 3, 0));
        due("PARTS of the one in which it is", 16, y.owners(0, 0, 3, 0));
        y.making(GROW, 1, 5, 5, 0, 0, false);
        due("GROW of the one in which it is", 15, y.now(0, 4, 2));
        y.making(WRITE, 2, 0, 5, 0, 0, false);
        due("WRITE on the one in which it is", 32, y.owners(0, 0, 5, 0));
        y.making(JOIN, 3, 2, 5, 0, 0, false);
        due("JOIN brings the one in which it is", 3, y.inside(0, 6));
        due("with all its WORTH", 42, y.now(3, 6, 1));
        for (int kind : new int[] {JOIN, MIX, BUILD}) {
            for (int pair = 0; pair < 3; pair++) {
                MarbleLaw z = stuffsWithLaws("Jp Mw", 0, 1, 2);
                for (int s = 0; s < 3; s++) z.debt(s, 1 + s);
                z.making(JOIN, 0, 1, 5, 2, 0, false);
                z.making(MIX, 0, 2, 5, 3, 0, false);
                int s = pair == 0 ? 0 : pair, t = pair == 0 ? 1 : pair == 1 ? 0 : 1;
                z.making(kind, s, t, 5, 7, 1, true);
                String what = "two in one by KIND " + kind + ", " + s + " and " + t;
                due(what + ": inside", 0, z.inside(t, 3));
                due(what + ": SORT", 1, z.now(0, 3, 0));
                due(what + ": WORTH", 42, z.now(0, 3, 1));
                due(what + ": AMOUNT", 20, z.now(0, 3, 2));
                due(what + ": debts", 6, z.now(0, 3, 3));
                due(what + ": no change", z.owners(0, 0, 2, 0), z.owners(0, 0, 3, 0));
                due(what + ": nothing lost", 0, z.lost(0, 2, 0, 0));
                due(what + ": none came", 0, z.undo(2, 3));
            }
        }
    }

    // ---- laws

    private static final String CAPITALS = "FJMWK";
    private static final String[] SMALLS = {"smg", "cp", "aw", "cm", "yn"};

    private static int faultOf(int... bytes) {
        MarbleLaw x = new MarbleLaw();
        x.text(2, bytes.length);
        for (int i = 0; i < bytes.length; i++) x.put(2, i, bytes[i]);
        return x.fault(2);
    }

    private static int faultOf(String words) {
        MarbleLaw x = new MarbleLaw();
        return x.fault(write(x, 2, words));
    }

    private static int numberOf(String words) {
        return legislate(new MarbleLaw(), 1, words);
    }

    private static void lawsByTexts() {
        sentence(TERMS, "LAWS 0 .. 3 (missing at first) are told by a TEXT: blanks (32) ahead, between, behind as many as"
                + " wanted; pairs of a capital and a small letter, each capital once at most: F (70) s, m or g (115, 109,"
                + " 103), J (74) c or p (99, 112), M (77) a or w (97, 119), W (87) c or m, K (75) y or n (121, 110).");
        for (int l = 0; l < 4; l++) {
            int laws = l;
            finds("LAWS " + l + " at first", NOTHING, new MarbleLaw(), x -> x.law(laws));
        }
        range("laws", 0, 3, (x, v) -> x.laws(v, 0));
        range("law", 0, 3, (x, v) -> x.law(v));
        range("whose", 0, 3, (x, v) -> x.whose(v, 0, 0, 0, 0));
        range("owners", 0, 3, (x, v) -> x.owners(v, 0, 0, 0));
        range("changes", 0, 3, (x, v) -> x.changes(v, 0, 0, 0));
        range("lost", 0, 3, (x, v) -> x.lost(v, 0, 0, 0));
        range("beside", 0, 3, (x, v) -> x.beside(v, 0, 0));
        range("beside", 0, 3, (x, v) -> x.beside(0, v, 0));
        range("sure", 0, 3, (x, v) -> x.sure(v, 0, 0, 0));
        range("hangs", 0, 3, (x, v) -> x.hangs(v, 0, 0, 0));
        range("sly", 0, 3, (x, v) -> x.sly(v, 0, 0, 0));
        range("stop", 0, 3, (x, v) -> x.stop(v, 0, 0, 0));
        range("inTime", 0, 3, (x, v) -> x.inTime(v, 0, 0));
        for (int v = -128; v < 256; v++) {
            int sign = v & 255;
            int word = CAPITALS.indexOf(sign);
            due("a sign " + v, sign == 32 ? NONE : word >= 0 ? 1 : 0, faultOf(v));
            for (int k = 0; k < 5; k++) {
                due(CAPITALS.charAt(k) + " and " + v, SMALLS[k].indexOf(sign) >= 0 ? NONE : 1, faultOf(CAPITALS.charAt(k), v));
            }
        }
        String[] blanks = {"", " ", "   ", " ".repeat(15)};
        for (String a : blanks) for (String b : blanks) for (String c : blanks) {
            if (a.length() + b.length() + c.length() > 36) continue;
            due("blanks", 21122, numberOf(a + "Fm" + b + "Wm" + c));
        }
        due("40 signs", 32221, numberOf(" ".repeat(30) + "FgJpMwWmKy"));
        due("40 signs", 32221, numberOf("FgJpMwWmKy" + " ".repeat(30)));
        due("40 blanks", 11112, numberOf(" ".repeat(40)));
        due("each once", NONE, faultOf("KnWcMaJcFs"));
        for (int k = 0; k < 5; k++) for (int i = 0; i < SMALLS[k].length(); i++) for (int j = 0; j < SMALLS[k].length(); j++) {
            String twice = CAPITALS.substring(k, k + 1) + SMALLS[k].charAt(i) + CAPITALS.charAt(k) + SMALLS[k].charAt(j);
            due(twice, 2, faultOf(twice));
        }

        sentence(TERMS, "What is not told: F s, J c, M a, W c, K n.");
        due("nothing", numberOf("Fs Jc Ma Wc Kn"), numberOf(""));
        due("F", 21112, numberOf("Fm"));
        due("J", 12112, numberOf("Jp"));
        due("M", 11212, numberOf("Mw"));
        due("W", 11122, numberOf("Wm"));
        due("K", 11111, numberOf("Ky"));
        due("all but F", 12221, numberOf("JpMwWmKy"));
        due("all but J", 31221, numberOf("FgMwWmKy"));
        due("all but M", 32121, numberOf("FgJpWmKy"));
        due("all but W", 32211, numberOf("FgJpMwKy"));
        due("all but K", 32222, numberOf("FgJpMwWm"));
        MarbleLaw anew = new MarbleLaw();
        legislate(anew, 0, "FgJpMwWmKy");
        due("not what was told ahead", 11112, legislate(anew, 0, ""));

        sentence(TERMS, "A FAULT is the first place at which it can't go on so (a capital twice: its place; the TEXT's size, if"
                + " its end comes too early).");
        due("none", NONE, faultOf(""));
        due("the first place", 0, faultOf("xx"));
        due("the last place", 39, faultOf(" ".repeat(39) + "x"));
        due("the first of two", 2, faultOf("Fsx Jx"));
        due("a small one that does not go", 1, faultOf("Fc"));
        due("a blank in a pair", 1, faultOf("F s"));
        due("a capital twice", 3, faultOf("Fs FsX"));
        due("a capital twice, though its end comes", 2, faultOf("FsF"));
        due("a capital twice, though no small one goes", 2, faultOf("FsFx"));
        due("a capital as a small one", 1, faultOf("FF"));
        due("the end too early", 1, faultOf("F"));
        due("the end too early", 3, faultOf("FsJ"));
        due("the end in time", NONE, faultOf("FsJc"));
        due("the end of 40 too early", 40, faultOf(" ".repeat(39) + "K"));
        due("the end of 40 in time", NONE, faultOf(" ".repeat(38) + "Ky"));
    }

    private static void partsByLaws() {
        sentence(TERMS, "PARTS of a STUFF: shares of PERSONS; at first all the OWNER's.");
        for (int owner = 0; owner < 6; owner++) {
            MarbleLaw x = stuffsWithLaws("FgJpMwWmKy", owner);
            for (int p = 0; p < 6; p++) {
                due("PERSON " + p + " of " + owner + "'s", p == owner ? 1 : 0, x.whose(0, 0, 0, 15, p));
                fraction("PERSON " + p + " of " + owner + "'s", p == owner ? 1 : 0, 1, x);
            }
        }

        sentence(TERMS, "By LAWS, behind a MAKING of s (in which it is), WORTH a, and t, WORTH b: WORTH is a and b and WORK,"
                + " AMOUNT is both together (of MIX; GROW: its own and what it grows by; else s's).");
        int[] worths = {20, 29, 59, 59, 29, 59, 29}, amounts = {10, 10, 10, 50, 10, 10, 14};
        for (int kind = 0; kind <= 6; kind++) {
            MarbleLaw x = new MarbleLaw();
            x.stuff(1, 20, 10, 0);
            x.stuff(1, 30, 40, 1);
            x.making(kind, 0, kind == GROW ? 4 : 1, 5, 9, 0, false);
            due("WORTH by KIND " + kind, worths[kind], x.now(0, 1, 1));
            due("AMOUNT by KIND " + kind, amounts[kind], x.now(0, 1, 2));
        }
        MarbleLaw most = new MarbleLaw();
        for (int s = 0; s < 16; s++) most.stuff(0, 99, 99, 0);
        for (int s = 1; s <= 12; s++) most.making(MIX, 0, s, 0, 99, 0, false);
        due("the most WORTH", 25 * 99, most.now(12, 12, 1));
        due("the most AMOUNT", 13 * 99, most.now(12, 12, 2));

        sentence(TERMS, "FORM: F s: as they were; m: all the MAKER's; g: all the MAKER's, if WORK is more than a, else as they"
                + " were.");
        for (int a : new int[] {1, 2, 50, 98, 99}) {
            for (int work : new int[] {0, a - 1, a, a + 1, 99}) {
                if (work > 99) continue;
                MarbleLaw x = new MarbleLaw();
                x.stuff(0, a, 1, 0);
                x.making(FORM, 0, 1, 1, work, 0, false);
                for (String f : new String[] {"Fs", "Fm", "Fg"}) {
                    legislate(x, 0, f);
                    boolean his = f.equals("Fm") || f.equals("Fg") && work > a;
                    due(f + " WORK " + work + " on " + a, his ? 2 : 1, x.owners(0, 0, 1, 0));
                }
            }
        }
        MarbleLaw grown = stuffsWithLaws("Fg", 0, 2);
        grown.making(JOIN, 0, 1, 0, 5, 0, false);
        grown.making(FORM, 1, 1, 1, 25, 0, false);
        due("a is of that in which it is", 1, grown.owners(0, 1, 2, 0));
        MarbleLaw more = stuffsWithLaws("Fg", 0, 2);
        more.making(JOIN, 0, 1, 0, 5, 0, false);
        more.making(FORM, 1, 1, 1, 26, 0, false);
        due("one more than a", 2, more.owners(0, 1, 2, 0));

        sentence(TERMS, "WRITE: W c: as they were, m: all the MAKER's.");
        MarbleLaw w = stuffsWithLaws("Wc", 0);
        w.making(WRITE, 0, 0, 1, 99, 0, false);
        due("c, by WORK 99", 1, w.owners(0, 0, 1, 0));
        MarbleLaw v = stuffsWithLaws("Wm", 0);
        v.making(WRITE, 0, 0, 1, 0, 0, false);
        due("m, by WORK 0", 2, v.owners(0, 0, 1, 0));

        sentence(TERMS, "K y: a MAKER who KNEW has nothing by FORM, WRITE (as they were).");
        for (int kind : new int[] {FORM, WRITE}) {
            for (int knew = 0; knew < 2; knew++) {
                MarbleLaw x = stuffsWithLaws("Fm Wm Ky", 0, 1);
                legislate(x, 1, "Fm Wm Kn");
                x.making(MIX, 0, 1, 5, 0, 0, false);
                x.making(kind, 0, 1, 1, 99, knew, false);
                due("K y by KIND " + kind + " KNEW " + knew, knew == 1 ? 3 : 2, x.owners(0, 0, 2, 0));
                due("K n by KIND " + kind + " KNEW " + knew, 2, x.owners(1, 0, 2, 0));
            }
        }

        sentence(TERMS, "JOIN: J c: s's PARTS; p: both by WORTH (a, b).");
        joined(JOIN, "Jc Mw", 1, 0);
        joined(JOIN, "Jp Ma", 2, 3);
        sentence(TERMS, "BUILD: s's.");
        joined(BUILD, "Jc", 1, 0);
        joined(BUILD, "Jp Mw", 1, 0);
        sentence(TERMS, "MIX: M a: both by AMOUNT, w: by WORTH.");
        joined(MIX, "Ma Jp", 1, 4);
        joined(MIX, "Mw Jc", 2, 3);

        sentence(TERMS, "GROW: as they were.");
        MarbleLaw g = stuffsWithLaws("FmJpMwWm", 0);
        g.making(GROW, 0, 99, 1, 99, 0, false);
        due("by all that he worked", 1, g.owners(0, 0, 1, 0));
    }

    /** s of WORTH 20, AMOUNT 10 and t of WORTH 30, AMOUNT 40, by WORK 9: the parts of their owners 4 and 5. */
    private static void joined(int kind, String words, int ofChief, int ofComer) {
        MarbleLaw x = new MarbleLaw();
        x.stuff(0, 20, 10, 4);
        x.stuff(0, 30, 40, 5);
        x.making(kind, 0, 1, 1, 9, 1, false);
        legislate(x, 0, words);
        due(words + " s's", 1, x.whose(0, 0, 1, 0, 4));
        fraction(words + " s's", ofChief, ofChief + ofComer, x);
        due(words + " t's", ofComer > 0 ? 1 : 0, x.whose(0, 0, 1, 0, 5));
        fraction(words + " t's", ofComer, ofComer > 0 ? ofChief + ofComer : 1, x);
        due(words + " the MAKER's", 0, x.whose(0, 0, 1, 0, 1));
    }

    private static void answersAndFineParts() {
        sentence(TERMS, "ANSWERS to questions are told by bits (0 .. 15).");
        range("whose", 0, 15, (x, v) -> x.whose(0, 0, 0, v, 0));
        range("owners", 0, 15, (x, v) -> x.owners(0, 0, 0, v));
        range("changes", 0, 15, (x, v) -> x.changes(0, 0, v, 0));
        range("lost", 0, 15, (x, v) -> x.lost(0, 0, v, 0));
        range("beside", 0, 15, (x, v) -> x.beside(0, 1, v));

        sentence(TERMS, "If the least common lower number of all PARTS of a STUFF is above 10000 behind a MAKING, no PARTS are"
                + " told behind it (SIZE).");
        for (int lower : new int[] {9999, 10000}) {
            MarbleLaw x = fine(lower);
            due("just as fine", 1, x.whose(0, 0, 3, 0, 0));
            fraction("just as fine", lower == 9999 ? 2 : 1, lower, x);
            due("just as fine", 7, x.owners(0, 3, 3, 0));
            due("just as fine", 2, x.changes(0, 0, 0, 2));
        }
        finds("too fine", SIZE, fine(10001), x -> x.whose(0, 0, 3, 0, 0));
        finds("too fine for him who has nothing", SIZE, fine(10001), x -> x.whose(0, 0, 3, 0, 5));
        finds("another STUFF behind it", SIZE, fine(10001), x -> x.whose(0, 4, 3, 0, 5));
        due("ahead of it", 1, fine(10001).whose(0, 0, 2, 0, 0));
        due("by other LAWS", 1, fine(10001).whose(1, 0, 3, 0, 0));
        due("WORTH is no part", 137, fine(10001).now(0, 3, 1));
        MarbleLaw again = fine(10001);
        legislate(again, 0, "Jp Wm");
        again.making(WRITE, 0, 0, 5, 0, 0, false);
        finds("behind it, though all is one's again", SIZE, again, x -> x.owners(0, 0, 4, 0));
        leastCommon();

        sentence(TERMS, "Notes (KIND 0) do nothing.");
        MarbleLaw note = stuffsWithLaws("FmJpMwWm", 0, 1);
        note.making(NOTE, 0, 1, 1, 99, 1, true);
        for (int what = 0; what < 4; what++) due("now " + what, note.now(0, 0, what), note.now(0, 1, what));
        due("inside", 1, note.inside(1, 1));
        due("owners", 1, note.owners(0, 0, 1, 0));
        quiet("changes", NONE, note, x -> x.changes(0, 0, 0, 1));
        due("undo", 0, note.undo(0, 1));
    }

    /** No part has a lower number above 435, but the least common one of all is 3 * 5 * 23 * 29. */
    private static void leastCommon() {
        MarbleLaw x = new MarbleLaw();
        x.stuff(0, 19, 1, 1);
        x.stuff(0, 10, 1, 3);
        x.stuff(0, 11, 1, 4);
        x.stuff(0, 12, 1, 2);
        legislate(x, 0, "Mw");
        x.making(MIX, 0, 1, 0, 3, 0, false);
        x.making(MIX, 2, 3, 0, 5, 0, false);
        x.making(MIX, 2, 0, 0, 0, 0, false);
        for (int p = 0; p < 6; p++) {
            int person = p;
            finds("10005 of parts by 435 at most", SIZE, x, y -> y.whose(0, 0, 3, 0, person));
        }
    }

    private static void debtsAndLosses() {
        sentence(TERMS, "DEBTS: each STUFF has one of 0 .. 999 at first 0; it RIDES on that in which it is, together with others"
                + " there.");
        range("a debt", 0, 999, (x, v) -> x.debt(0, v));
        MarbleLaw x = stuffs(0, 1, 2);
        tells("at first", 0, x, y -> y.about(1, 4));
        due("rides at first", 0, x.now(1, 0, 3));
        for (int s = 0; s < 3; s++) x.debt(s, 999);
        x.making(JOIN, 0, 1, 0, 0, 0, false);
        due("by itself", 999, x.now(1, 0, 3));
        due("together", 1998, x.now(1, 1, 3));
        due("together", 1998, x.now(0, 1, 3));
        due("apart", 999, x.now(2, 1, 3));
        x.debt(1, 1);
        due("as it is now", 1000, x.now(0, 1, 3));
        x.making(BUILD, 2, 1, 0, 0, 0, false);
        due("with that in which it is", 1999, x.now(1, 2, 3));

        sentence(TERMS, "LOST by a MAKING is for a PERSON: what he had of s and of t by WORTH ahead of it, less what he has of s by"
                + " WORTH behind it (WORK not counted: of a and b alone).");
        for (int work : new int[] {0, 1, 99}) {
            MarbleLaw y = new MarbleLaw();
            y.stuff(0, 20, 10, 0);
            y.stuff(0, 30, 40, 1);
            legislate(y, 0, "Fm");
            legislate(y, 1, "Mw");
            y.making(MIX, 0, 1, 5, work, 0, false);
            y.making(FORM, 0, 1, 5, work, 0, false);
            due("of s", 1, y.lost(0, 0, 0, 0));
            fraction("of s: 20 less a fifth of 50", 10, 1, y);
            due("of t", 2, y.lost(0, 0, 0, 1));
            fraction("of t: 30 less four fifths of 50", -10, 1, y);
            due("neither", 0, y.lost(1, 0, 0, 1));
            fraction("neither", 0, 1, y);
            due("the MAKER", 0, y.lost(0, 0, 0, 5));
            due("the MAKER by FORM", 2, y.lost(0, 1, 0, 5));
            fraction("the MAKER by FORM: the earlier WORK counts", -50 - work, 1, y);
            due("by FORM", 1, y.lost(0, 1, 0, 0));
            fraction("by FORM", work == 0 ? 10 : work == 1 ? 51 : 149, work == 0 ? 1 : 5, y);
        }
    }

    // ---- parted, sure, sly, stopped, in time

    private static MarbleLaw parted(int kind, int worthOfChief, int worthOfComer, int work) {
        MarbleLaw x = new MarbleLaw();
        x.stuff(1, worthOfChief, 1, 0);
        x.stuff(1, worthOfComer, 1, 1);
        x.stuff(1, 1, 1, 2);
        x.stuff(1, 1, 1, 3);
        x.making(kind, 0, 1, 0, work, 0, true);
        return x;
    }

    private static void partingsAndSurety() {
        sentence(TERMS, "PARTED again behind m MAKINGS is a MAKING (JOIN, BUILD) among them that can be, by which a STUFF came, if"
                + " none of them behind it (but notes) names a STUFF that is in the same thing as its s behind all m: it SAVES"
                + " the WORTH of t ahead of it, and costs 1 and a tenth (cut) of the WORTH of the thing behind all m.");
        for (int kind : new int[] {JOIN, BUILD}) {
            tells("a tenth of 9", 4 - 1, parted(kind, 5, 4, 0), x -> x.undo(0, 1));
            tells("a tenth of 10", 4 - 2, parted(kind, 5, 4, 1), x -> x.undo(0, 1));
            tells("a tenth of 19", 4 - 2, parted(kind, 5, 4, 10), x -> x.undo(0, 1));
            tells("a tenth of 20", 4 - 3, parted(kind, 5, 4, 11), x -> x.undo(0, 1));
            tells("saved as much as it costs", 0, parted(kind, 5, 2, 5), x -> x.undo(0, 1));
            tells("costs more", 1 - 20, parted(kind, 99, 1, 99), x -> x.undo(0, 1));
        }
        MarbleLaw worked = stuffs(0, 1);
        worked.making(WRITE, 1, 0, 0, 30, 0, false);
        worked.making(JOIN, 0, 1, 0, 0, 0, true);
        tells("the WORTH of t ahead of it, with WORK", 40 - 6, worked, x -> x.undo(1, 2));
        MarbleLaw deep = stuffs(0, 1, 2);
        deep.making(MIX, 1, 2, 0, 30, 0, false);
        deep.making(JOIN, 0, 2, 0, 0, 0, true);
        tells("the WORTH of that in which t was", 50 - 7, deep, x -> x.undo(1, 2));
        for (int kind = 0; kind <= 6; kind++) {
            for (int s = 0; s < 3; s++) {
                MarbleLaw x = parted(JOIN, 5, 4, 0);
                x.making(kind, s, kind == JOIN || kind == MIX || kind == BUILD ? 3 : 1, 0, 0, 0, false);
                due("behind KIND " + kind + " of " + s, kind == NOTE || s == 2 ? 1 : 0, x.undo(0, 2));
                due("ahead of KIND " + kind + " of " + s, 1, x.undo(0, 1));
            }
        }
        for (int kind : new int[] {JOIN, MIX, BUILD}) {
            MarbleLaw x = parted(BUILD, 5, 4, 0);
            x.making(kind, 3, 1, 0, 0, 0, false);
            due("brought away by KIND " + kind, 0, x.undo(0, 2));
        }
        MarbleLaw none = parted(JOIN, 5, 4, 0);
        none.making(JOIN, 0, 1, 0, 0, 0, true);
        due("by which none came", 0, none.undo(1, 2));
        for (int kind : new int[] {NOTE, FORM, MIX, WRITE, GROW}) due("KIND " + kind, 0, parted(kind, 5, 4, 0).undo(0, 1));

        sentence(TERMS, "SURE that a PERSON has something of a STUFF: by all ANSWERS; OPEN: by some; else OUT.");
        MarbleLaw x = stuffsWithLaws("Fm Ky", 0);
        for (int q = 0; q < 4; q++) x.making(FORM, 0, 1, 1, 0, 2 + q, false);
        due("by 1 of 16", 1, x.sure(0, 0, 4, 0));
        due("by 15 of 16", 1, x.sure(0, 0, 4, 1));
        due("by 16 of 16", 2, x.sure(0, 0, 0, 0));
        due("by 0 of 16", 0, x.sure(0, 0, 4, 2));
        due("by 8 of 16", 1, x.sure(0, 0, 1, 0));
        MarbleLaw part = stuffsWithLaws("Wm Ky", 0, 1);
        part.making(WRITE, 1, 0, 0, 0, 5, false);
        part.making(MIX, 0, 1, 0, 0, 0, false);
        due("all by some, a part by others", 2, part.sure(0, 0, 2, 0));
        due("nothing by some, a part by others", 1, part.sure(0, 0, 2, 1));

        sentence(TERMS, "It HANGS on the fewest questions that decide it: all ANSWERS alike in these tell the same; of alike ones"
                + " the least bits.");
        int[] bits = {0, 1, 3, 7, 15};
        for (int m = 0; m <= 4; m++) due("on " + m + " questions", bits[m], x.hangs(0, 0, m, 0));
        due("on none: he is OUT", 0, x.hangs(0, 0, 4, 2));
        due("on none: something is left to him by all", 0, part.hangs(0, 0, 2, 0));
        due("on the last", 8, part.hangs(0, 0, 2, 1));
        MarbleLaw idle = stuffsWithLaws("Wm Ky", 0);
        idle.making(WRITE, 0, 0, 1, 0, 3, false);
        idle.making(WRITE, 0, 0, 1, 0, 1, false);
        idle.making(WRITE, 0, 0, 2, 0, 4, false);
        due("told of two", 6, idle.hangs(0, 0, 3, 1));
        due("not on one that is idle", 4, idle.hangs(0, 0, 3, 2));
        idle.making(WRITE, 0, 0, 3, 0, 0, false);
        due("on none: all are idle", 0, idle.hangs(0, 0, 4, 3));
    }

    private static void slyStopInTime() {
        sentence(TERMS, "A TAKER is SLY by one MAKING of his that comes behind all that are told (the ANSWERS 0; he KNEW; WORK as"
                + " told), behind which all PARTS of that in which a thing is are his: 1 FORM of it, 2 WRITE on it, 3 JOIN of"
                + " it to a STUFF in another thing of which he has all (some such STUFF; not, if PARTS are too fine then).");
        due("FORM, m", 1, stuffsWithLaws("Fm", 0).sly(0, 0, 1, 0));
        due("FORM, he KNEW", NONE, stuffsWithLaws("Fm Ky", 0).sly(0, 0, 1, 99));
        due("FORM, WORK one less", NONE, stuffsWithLaws("Fg", 0).sly(0, 0, 1, 9));
        due("FORM, WORK as much", NONE, stuffsWithLaws("Fg", 0).sly(0, 0, 1, 10));
        due("FORM, WORK one more", 1, stuffsWithLaws("Fg", 0).sly(0, 0, 1, 11));
        due("WRITE, m", 2, stuffsWithLaws("Wm", 0).sly(0, 0, 1, 0));
        due("WRITE, he KNEW", NONE, stuffsWithLaws("Wm Ky", 0).sly(0, 0, 1, 0));
        due("JOIN, c", 3, stuffsWithLaws("Ky", 0, 1).sly(0, 0, 1, 0));
        due("JOIN, p", NONE, stuffsWithLaws("Jp", 0, 1).sly(0, 0, 1, 99));
        due("JOIN, he has no other", NONE, stuffsWithLaws("", 0, 2).sly(0, 0, 1, 99));
        MarbleLaw same = stuffsWithLaws("Jc", 0, 1);
        same.making(BUILD, 0, 1, 0, 0, 0, false);
        due("JOIN, his STUFF is in the same thing", NONE, same.sly(0, 0, 1, 99));
        MarbleLaw part = stuffsWithLaws("Jc", 0, 1, 2);
        part.making(MIX, 1, 2, 0, 0, 0, false);
        due("JOIN, he has but a part of the other", NONE, part.sly(0, 0, 1, 99));
        part.stuff(1, 1, 1, 1);
        due("JOIN, some such STUFF", 3, part.sly(0, 0, 1, 0));
        due("JOIN, some such STUFF: the first", 3, stuffsWithLaws("", 1, 0).sly(0, 1, 1, 0));
        MarbleLaw gone = stuffsWithLaws("", 1, 0, 2);
        gone.making(BUILD, 1, 0, 0, 0, 0, false);
        due("JOIN, his STUFF came to another's", NONE, gone.sly(0, 2, 1, 99));
        due("JOIN, a part of the thing is his", 3, part.sly(0, 1, 1, 0));
        MarbleLaw answered = stuffsWithLaws("Wm Ky", 0);
        answered.making(WRITE, 0, 0, 1, 0, 2, false);
        due("ANSWERS 0: he has all", 0, answered.sly(0, 0, 1, 0));
        due("ANSWERS 0: he has nothing", NONE, answered.sly(0, 0, 0, 0));
        MarbleLaw full = fullOfMakings(12);
        legislate(full, 0, "Wm");
        due("behind 12", 2, full.sly(0, 0, 1, 0));
        due("PARTS just as fine", 3, fine(10000).sly(1, 0, 5, 0));
        due("PARTS just as fine", NONE, fine(10000).sly(0, 0, 5, 0));
        MarbleLaw behind = fine(9999);
        due("PARTS too fine then: by J p it is none", NONE, behind.sly(0, 4, 2, 0));

        sentence(TERMS, "The first of these.");
        due("FORM ahead of WRITE, JOIN", 1, stuffsWithLaws("Fm Wm", 0, 1).sly(0, 0, 1, 0));
        due("WRITE ahead of JOIN", 2, stuffsWithLaws("Fg Wm", 0, 1).sly(0, 0, 1, 10));
        due("JOIN", 3, stuffsWithLaws("Fg", 0, 1).sly(0, 0, 1, 10));
        due("all ahead of FORM", 0, stuffsWithLaws("Fm Wm", 0, 1).sly(0, 1, 1, 0));

        sentence(TERMS, "A WORD of law is one pair told otherwise.");
        stopped("Fs", stuffsWithLaws("Fs", 0), 1, 0, 11112, 0);
        stopped("F m to s", stuffsWithLaws("Fm", 0), 1, 0, 11112, 1);
        stopped("F g to s is one, too", stuffsWithLaws("Fg", 0), 1, 11, 11112, 1);
        stopped("J", stuffsWithLaws("Jc", 0, 1), 1, 0, 12112, 1);
        stopped("W", stuffsWithLaws("Wm", 0), 1, 0, 11112, 1);
        stopped("K for F and W", stuffsWithLaws("Fm Wm", 0), 1, 0, 21121, 1);
        stopped("J and K", stuffsWithLaws("Fm Wm", 0, 1), 1, 0, 22121, 2);
        MarbleLaw mixed = stuffsWithLaws("", 0, 1, 2);
        mixed.making(MIX, 0, 1, 5, 0, 0, false);
        mixed.making(WRITE, 0, 0, 2, 0, 1, false);
        legislate(mixed, 0, "Fm Wm Mw");
        stopped("M stays", mixed, 2, 0, 22221, 2);

        sentence(TERMS, "STOP: the fewest WORDS by which he is not SLY and has not all already (LAWS by which PARTS are too fine are"
                + " left out); of alike ones the first by F (s, m, g), J (c, p), M (a, w), W (c, m), K (y, n).");
        MarbleLaw already = stuffsWithLaws("Wm", 0);
        already.making(WRITE, 0, 0, 1, 0, 0, false);
        stopped("he has all by the LAWS as told", already, 1, 0, 11112, 1);
        MarbleLaw knew = stuffsWithLaws("Wm", 0);
        knew.making(WRITE, 0, 0, 1, 0, 1, false);
        stopped("W c, and K y would do it, too: F, J, M, W are ahead of K", knew, 1, 0, 11112, 1);
        MarbleLaw byForm = stuffsWithLaws("Fm", 0);
        stopped("F s, and F g, and K y would do it", byForm, 1, 0, 11112, 1);
        stopped("F s, ahead of F m with K y", stuffsWithLaws("Fg", 0), 1, 11, 11112, 1);
        stopped("F m and K y are more", stuffsWithLaws("Fm Wc", 0), 1, 50, 11112, 1);
        quiet("he has all by all LAWS", NONE, stuffsWithLaws("Fm", 0), x -> x.stop(0, 0, 0, 0));
        stopped("the first LAWS of all", stuffsWithLaws("Ky", 0), 1, 99, 11111, 0);
        stopped("F g, WORK as much", stuffsWithLaws("Fg", 0), 1, 10, 31112, 0);
        stopped("F g, WORK one more", stuffsWithLaws("Fg", 0), 1, 11, 11112, 1);
        MarbleLaw open = stuffsWithLaws("Wm Ky", 0);
        open.making(WRITE, 0, 0, 1, 0, 2, false);
        stopped("ANSWERS 0: who may have known did not", open, 1, 0, 11111, 1);
        manyWords();
        MarbleLaw left = fine(10001);
        legislate(left, 1, "Jc Ma");
        stopped("J p is too fine: two WORDS", left, 1, 5, 0, 12212, 2);
        MarbleLaw told = fine(10000);
        stopped("J p is just as fine: one WORD", told, 1, 5, 0, 12112, 1);

        sentence(TERMS, "IN TIME: the last MAKING that, left out (all others as told; not, if PARTS are too fine then), lets a"
                + " PERSON have something of a STUFF behind all (ANSWERS 0), though with it he has nothing.");
        MarbleLaw x = stuffsWithLaws("Wm Ky", 0);
        quiet("no MAKINGS", NONE, x, y -> y.inTime(0, 0, 1));
        x.making(WRITE, 0, 0, 1, 0, 2, false);
        due("the first, open", 0, x.inTime(0, 0, 0));
        quiet("he has something", NONE, x, y -> y.inTime(0, 0, 1));
        x.making(WRITE, 0, 0, 2, 0, 0, false);
        quiet("either one alone leaves the other", NONE, x, y -> y.inTime(0, 0, 0));
        due("the last one took it from him", 1, x.inTime(0, 0, 1));
        x.making(NOTE, 0, 0, 0, 0, 0, false);
        due("a note behind it", 1, x.inTime(0, 0, 1));
        MarbleLaw two = stuffsWithLaws("", 0, 1, 2);
        two.making(BUILD, 1, 0, 0, 0, 0, false);
        two.making(BUILD, 2, 1, 0, 0, 0, false);
        due("the first lets STUFF 0 stay his", 0, two.inTime(0, 0, 0));
        due("the last lets the one in which it is be another's", 1, two.inTime(0, 0, 1));
        fineInTime();
    }

    /** Four WORDS, and all five: by no fewer he loses what he has, and has it not again. */
    private static void manyWords() {
        MarbleLaw x = new MarbleLaw();
        x.stuff(0, 43, 1, 1);
        x.stuff(0, 9, 1, 1);
        legislate(x, 0, "Fs Jc Ma Wm Ky");
        x.making(FORM, 0, 0, 2, 57, 1, false);
        stopped("F, J, W, K", x, 1, 99, 32112, 4);
        MarbleLaw y = new MarbleLaw();
        int[][] stuffs = {{82, 83, 2}, {73, 59, 1}, {92, 33, 0}, {8, 45, 0}};
        for (int[] k : stuffs) y.stuff(0, k[0], k[1], k[2]);
        legislate(y, 0, "Fm Jc Mw Wm Ky");
        y.making(FORM, 3, 0, 1, 96, 1, false);
        y.making(FORM, 0, 0, 1, 87, 1, false);
        y.making(JOIN, 0, 2, 0, 73, 1, false);
        y.making(JOIN, 0, 2, 1, 0, 0, false);
        y.making(MIX, 2, 3, 0, 67, 1, false);
        stopped("F, J, M, W, K", y, 1, 77, 32112, 5);
    }

    private static void stopped(String what, MarbleLaw x, int person, int work, int number, int words) {
        stopped(what, x, 0, person, work, number, words);
    }

    private static void stopped(String what, MarbleLaw x, int l, int person, int work, int number, int words) {
        int before = x.law(l);
        due(what, number, x.stop(l, 0, person, work));
        due(what + ": WORDS", words, x.asked());
        due(what + ": LAWS stay", before, x.law(l));
    }

    /** By leaving out the WRITE all parts of fine() come to be told, or too fine. */
    private static void fineInTime() {
        for (int lower : new int[] {9999, 10000, 10001}) {
            MarbleLaw from = fine(lower);
            MarbleLaw x = new MarbleLaw();
            for (int s = 0; s < 4; s++) {
                int[] k = new int[4];
                for (int what = 0; what < 4; what++) {
                    from.about(s, what);
                    k[what] = from.asked();
                }
                x.stuff(k[0], k[1], k[2], k[3]);
            }
            x.making(MIX, 0, 1, 0, 0, 0, false);
            x.making(WRITE, 0, 0, 5, 0, 0, false);
            x.making(MIX, 2, 3, 0, 0, 0, false);
            x.making(JOIN, 0, 2, 0, 0, 0, false);
            legislate(x, 0, "Jp Wm");
            due("left out, by " + lower, lower > 10000 ? NONE : 1, x.inTime(0, 0, 0));
        }
    }

    // ---- heaps

    private static void drawn(String what, MarbleLaw x, int person, int n, int rule, int... layers) {
        due(what, layers.length, x.draw(2, person, n, rule));
        for (int i = 0; i < layers.length; i++) due(what + " layer " + i, layers[i], x.layer(2, i));
        due(what + " layers", layers.length, x.count(6));
    }

    private static void heapsAndDrawing() {
        sentence(TERMS, "HEAPS 0 .. 3 hold layers (20 at most): a PERSON and an AMOUNT (1 .. 99) each, as they came.");
        range("heap", 0, 3, (x, v) -> x.heap(v, 0, 1));
        range("left", 0, 3, (x, v) -> x.left(v, 0));
        range("layer", 0, 3, (x, v) -> x.layer(v, 0));
        range("draw", 0, 3, (x, v) -> x.draw(v, 0, 1, 0));
        range("AMOUNT", 1, 99, (x, v) -> x.heap(1, 0, v));
        MarbleLaw x = new MarbleLaw();
        for (int h = 0; h < 4; h++) {
            int heap = h;
            for (int i = 1; i <= 20; i++) due("layer " + i + " of HEAP " + h, i, x.heap(h, i % 6, i + h));
            quiet("the 21st", FULL, x, y -> y.heap(heap, 0, 1));
            due("as they came, the first", 10 * (1 + h) + 1, x.layer(h, 0));
            due("as they came, the last", 10 * (20 + h) + 2, x.layer(h, 19));
        }
        due("all of them", 80, x.count(6));

        sentence(TERMS, "DRAWN are n: 0 from the first layers on, 1 by parts (each layer its AMOUNT times n by all, cut; what is due"
                + " still: 1 each from the first layers on that have some), 2 from the last layers back, others' ahead of the"
                + " drawer's own.");
        drawn("0: less than the first", heaped(50, 31, 42), 0, 4, 0, 10, 31, 42);
        drawn("0: just the first", heaped(50, 31, 42), 0, 5, 0, 31, 42);
        drawn("0: one more", heaped(50, 31, 42), 0, 6, 0, 21, 42);
        drawn("0: all but one", heaped(50, 31, 42), 0, 11, 0, 12);
        drawn("0: all", heaped(50, 31, 42), 0, 12, 0);
        drawn("1: no cut", heaped(40, 21, 42), 0, 5, 1, 20, 11, 22);
        drawn("1: one due still", heaped(40, 41, 42), 0, 4, 1, 20, 31, 32);
        drawn("1: two due still", heaped(40, 41, 42), 0, 5, 1, 20, 21, 32);
        drawn("1: none due still", heaped(40, 41, 42), 0, 6, 1, 20, 21, 22);
        drawn("1: those that have none are passed", heaped(10, 11, 12), 0, 2, 1, 12);
        drawn("1: a layer that its part left empty is passed", heaped(20, 11), 0, 3, 1);
        drawn("1: all but one", heaped(50, 31, 42), 0, 11, 1, 12);
        drawn("1: all", heaped(50, 31, 42), 0, 12, 1);
        drawn("1: one", heaped(990, 991), 0, 1, 1, 980, 991);
        drawn("2: less than the last", heaped(50, 31, 42), 5, 3, 2, 50, 31, 12);
        drawn("2: just the last", heaped(50, 31, 42), 5, 4, 2, 50, 31);
        drawn("2: one more", heaped(50, 31, 42), 5, 5, 2, 50, 21);
        drawn("2: his own last", heaped(50, 31, 42), 2, 3, 2, 50, 42);
        drawn("2: all others'", heaped(50, 31, 42), 2, 8, 2, 42);
        drawn("2: one of his own", heaped(50, 31, 42), 2, 9, 2, 32);
        drawn("2: of his own from the last back", heaped(50, 31, 40), 0, 5, 2, 50, 20);
        drawn("2: of his own the first", heaped(50, 31), 0, 4, 2, 40);
        drawn("2: all", heaped(50, 31, 42), 1, 12, 2);
    }

    // ---- the promises

    private static void promises1To9() {
        sentence(1, "No ROWS, TEXTS, STUFFS, MAKINGS, LAWS; HEAPS are empty.");
        MarbleLaw n = new MarbleLaw();
        for (int what = 0; what <= 6; what++) due("count " + what, 0, n.count(what));
        for (int h = 0; h < 4; h++) {
            int heap = h;
            finds("HEAP " + h, BEYOND, n, x -> x.layer(heap, 0));
        }
        bad("STUFF 0", n, x -> x.about(0, 0));
        bad("MAKING 0", n, x -> x.told(0, 0));

        sentence(2, "A ROW is there with n ints 0: n.");
        for (int size : new int[] {0, 1, 40}) {
            MarbleLaw x = world();
            due("anew", size, x.row(0, size));
            for (int i = 0; i < size; i++) {
                int place = i;
                tells("place " + i, 0, x, y -> y.at(0, place));
            }
            due("still two", 2, x.count(0));
            due("one more", size, x.row(5, size));
            due("three", 3, x.count(0));
        }
        sentence(2, "BAD: also n above 40; SIZE: below 0.");
        range("r", 0, 5, (x, v) -> x.row(v, 40));
        due("40", 40, world().row(0, 40));
        bad("41", world(), x -> x.row(0, 41));
        bad("HIGH", world(), x -> x.row(0, HIGH));
        due("0", 0, world().row(0, 0));
        finds("-1", SIZE, world(), x -> x.row(0, -1));
        finds("LOW", SIZE, world(), x -> x.row(0, LOW));

        sentence(3, "Place i of a ROW is v: what it was, told by asked(): 1.");
        MarbleLaw w = world();
        tells("the last place", 9, w, x -> x.lay(0, 2, HIGH));
        tells("what it was", HIGH, w, x -> x.lay(0, 2, LOW));
        tells("what it was", LOW, w, x -> x.lay(0, 2, 0));
        tells("the first place", 7, w, x -> x.lay(0, 0, 1));
        tells("the one between", 8, w, x -> x.at(0, 1));
        sentence(3, "BAD; NOTHING; BEYOND.");
        range("r", 0, 5, (x, v) -> x.lay(v, 0, 1));
        finds("missing", NOTHING, world(), x -> x.lay(2, 0, 1));
        finds("missing, ahead of BEYOND", NOTHING, world(), x -> x.lay(2, -1, 1));
        places("i", 3, BoundaryTests::world, (x, v) -> x.lay(0, v, 1));
        finds("an empty ROW", BEYOND, world(), x -> x.lay(1, 0, 1));

        sentence(4, "Place i of a ROW, told by asked(): 1.");
        tells("the first", 7, world(), x -> x.at(0, 0));
        tells("the last", 9, world(), x -> x.at(0, 2));
        quietPlace();
        sentence(4, "BAD; NOTHING; BEYOND.");
        range("r", 0, 5, (x, v) -> x.at(v, 0));
        finds("missing", NOTHING, world(), x -> x.at(2, 0));
        finds("missing, ahead of BEYOND", NOTHING, world(), x -> x.at(2, 40));
        places("i", 3, BoundaryTests::world, (x, v) -> x.at(0, v));
        finds("an empty ROW", BEYOND, world(), x -> x.at(1, 0));

        sentence(5, "A ROW is missing: 1.");
        MarbleLaw t = world();
        due("tear", 1, t.tear(0));
        finds("it is missing", NOTHING, t, x -> x.at(0, 0));
        due("one is left", 1, t.count(0));
        due("an empty one", 1, t.tear(1));
        due("none is left", 0, t.count(0));
        due("anew", 3, t.row(0, 3));
        tells("with 0", 0, t, x -> x.at(0, 2));
        sentence(5, "BAD; NOTHING.");
        range("r", 0, 5, (x, v) -> x.tear(v));
        finds("missing", NOTHING, world(), x -> x.tear(2));
        finds("twice", NOTHING, t, x -> x.tear(1));

        copies();

        sentence(7, "The mean of a ROW's ints, cut, told by asked(): 1.");
        int[][] rows = {{5}, {1, 2}, {1, 2, 2}, {2, 2, 1}, {-1, -2}, {-1, 0}, {1, 0}, {-3, 4}, {HIGH, HIGH}, {LOW, LOW}, {HIGH, LOW},
            {LOW}, {0, 0, 0}};
        int[] means = {5, 1, 1, 1, -1, 0, 0, 0, HIGH, LOW, 0, LOW, 0};
        for (int i = 0; i < rows.length; i++) {
            MarbleLaw x = world();
            fill(x, 4, rows[i]);
            tells("the mean of row " + i, means[i], x, y -> y.mean(4));
        }
        for (int v : new int[] {HIGH, LOW}) {
            MarbleLaw x = new MarbleLaw();
            int[] forty = new int[40];
            java.util.Arrays.fill(forty, v);
            fill(x, 0, forty);
            tells("of 40", v, x, y -> y.mean(0));
        }
        sentence(7, "BAD; NOTHING; NOUGHT.");
        range("r", 0, 5, (x, v) -> x.mean(v));
        finds("missing", NOTHING, world(), x -> x.mean(5));
        finds("of none", NOUGHT, world(), x -> x.mean(1));
        MarbleLaw one = new MarbleLaw();
        fill(one, 1, 3);
        tells("of one", 3, one, x -> x.mean(1));

        textsAndBytes();
    }

    private static void quietPlace() {
        MarbleLaw x = world();
        long digest = x.digest();
        x.at(0, 1);
        due("nothing is laid", digest, x.digest());
    }

    private static void copies() {
        sentence(6, "n places of a ROW, from one on, come to those of another one (perhaps itself) from one on, as if taken ahead:"
                + " 1.");
        int[][] moves = {{0, 0, 5}, {0, 1, 4}, {1, 0, 4}, {0, 4, 1}, {4, 0, 1}, {2, 2, 3}, {0, 2, 3}, {2, 0, 3}, {0, 0, 0}, {5, 5, 0},
            {5, 0, 0}, {0, 5, 0}};
        for (int[] k : moves) {
            MarbleLaw x = new MarbleLaw();
            int[] from = {1, 2, 3, 4, 5}, to = {6, 7, 8, 9, 10}, self = from.clone();
            fill(x, 0, from);
            fill(x, 1, to);
            for (int i = 0; i < k[2]; i++) {
                to[k[1] + i] = from[k[0] + i];
                self[k[1] + i] = from[k[0] + i];
            }
            String what = k[2] + " from " + k[0] + " to " + k[1];
            due(what, 1, x.copy(0, k[0], 1, k[1], k[2]));
            due(what + " of itself", 1, x.copy(0, k[0], 0, k[1], k[2]));
            for (int i = 0; i < 5; i++) {
                int place = i;
                tells(what, to[i], x, y -> y.at(1, place));
                tells(what + " of itself", self[i], x, y -> y.at(0, place));
            }
        }
        sentence(6, "BAD; SIZE: n below 0; NOTHING: either; BEYOND: not so many there.");
        range("r", 0, 5, (x, v) -> x.copy(v, 0, 0, 0, 0));
        range("to", 0, 5, (x, v) -> x.copy(0, 0, v, 0, 0));
        due("n 0", 1, world().copy(0, 0, 0, 0, 0));
        finds("n -1", SIZE, world(), x -> x.copy(0, 0, 0, 0, -1));
        finds("n LOW", SIZE, world(), x -> x.copy(0, 0, 0, 0, LOW));
        finds("n -1, though missing", SIZE, world(), x -> x.copy(2, 0, 2, 0, -1));
        finds("n -1, though beyond", SIZE, world(), x -> x.copy(0, 9, 0, 9, -1));
        finds("from missing", NOTHING, world(), x -> x.copy(2, 0, 0, 0, 0));
        finds("to missing", NOTHING, world(), x -> x.copy(0, 0, 2, 0, 0));
        finds("missing, though beyond", NOTHING, world(), x -> x.copy(0, 9, 2, 9, 9));
        due("all there", 1, world().copy(0, 0, 0, 0, 3));
        finds("one too many there", BEYOND, world(), x -> x.copy(0, 0, 0, 0, 4));
        due("the last two", 1, world().copy(0, 1, 0, 0, 2));
        finds("one too many from there", BEYOND, world(), x -> x.copy(0, 1, 0, 0, 3));
        due("to the last two", 1, world().copy(0, 0, 0, 1, 2));
        finds("one too many to there", BEYOND, world(), x -> x.copy(0, 0, 0, 2, 2));
        due("none at the end", 1, world().copy(0, 3, 0, 3, 0));
        finds("none behind the end", BEYOND, world(), x -> x.copy(0, 4, 0, 0, 0));
        finds("none to behind the end", BEYOND, world(), x -> x.copy(0, 0, 0, 4, 0));
        due("none of an empty one", 1, world().copy(1, 0, 1, 0, 0));
        finds("one of an empty one", BEYOND, world(), x -> x.copy(1, 0, 0, 0, 1));
        finds("one to an empty one", BEYOND, world(), x -> x.copy(0, 0, 1, 0, 1));
        finds("from below 0", BEYOND, world(), x -> x.copy(0, -1, 0, 0, 1));
        finds("to below 0", BEYOND, world(), x -> x.copy(0, 0, 0, -1, 1));
        finds("n wraps around", BEYOND, world(), x -> x.copy(0, 1, 0, 0, HIGH));
        finds("i wraps around", BEYOND, world(), x -> x.copy(0, HIGH, 0, 0, 1));
        finds("j wraps around", BEYOND, world(), x -> x.copy(0, 0, 0, HIGH, 1));
        finds("all wrap around", BEYOND, world(), x -> x.copy(0, HIGH, 0, HIGH, HIGH));
        finds("from LOW", BEYOND, world(), x -> x.copy(0, LOW, 0, LOW, 1));
    }

    private static void textsAndBytes() {
        sentence(8, "A TEXT is there with n blanks: n.");
        for (int size : new int[] {0, 1, 40}) {
            MarbleLaw x = world();
            write(x, 3, "FgJpMwWmKy");
            due("anew", size, x.text(3, size));
            quiet("blanks", NONE, x, y -> y.fault(3));
            for (int i = 0; i < size; i++) due("byte " + i, 1032, x.put(3, i, 1));
            due("still three", 3, x.count(1));
            due("one more", size, x.text(2, size));
            due("four", 4, x.count(1));
        }
        sentence(8, "BAD: also n above 40; SIZE: below 0.");
        range("t", 0, 3, (x, v) -> x.text(v, 40));
        due("40", 40, world().text(0, 40));
        bad("41", world(), x -> x.text(0, 41));
        bad("HIGH", world(), x -> x.text(0, HIGH));
        due("0", 0, world().text(0, 0));
        finds("-1", SIZE, world(), x -> x.text(0, -1));
        finds("LOW", SIZE, world(), x -> x.text(0, LOW));

        sentence(9, "Byte i of a TEXT is v, cut to a byte: what it was, and 1000 more.");
        int[] puts = {0, 127, 128, 129, 255, 256, 257, -1, -128, -129, -256, HIGH, LOW, 70};
        int[] bytes = {0, 127, -128, -127, -1, 0, 1, -1, -128, 127, 0, -1, 0, 70};
        MarbleLaw b = world();
        int before = 32;
        for (int i = 0; i < puts.length; i++) {
            due("put " + puts[i], before + 1000, b.put(0, 3, puts[i]));
            before = bytes[i];
        }
        due("the others stay", 1032, b.put(0, 2, 0));
        sentence(9, "BAD; NOTHING; BEYOND.");
        range("t", 0, 3, (x, v) -> x.put(v, 0, 1));
        finds("missing", NOTHING, world(), x -> x.put(2, 0, 1));
        finds("missing, ahead of BEYOND", NOTHING, world(), x -> x.put(2, -1, 1));
        places("i", 4, BoundaryTests::world, (x, v) -> x.put(0, v, 1));
        finds("an empty TEXT", BEYOND, world(), x -> x.put(1, 0, 1));
    }

    private static void promises10To16() {
        sentence(10, "A STUFF: its number.");
        MarbleLaw x = new MarbleLaw();
        for (int s = 0; s < 16; s++) due("STUFF " + s, s, x.stuff(9, 99, 99, 5));
        sentence(10, "BAD; FULL.");
        range("sort", 0, 9, (y, v) -> y.stuff(v, 50, 50, 2));
        range("worth", 1, 99, (y, v) -> y.stuff(5, v, 50, 2));
        range("amount", 1, 99, (y, v) -> y.stuff(5, 50, v, 2));
        range("owner", 0, 5, (y, v) -> y.stuff(5, 50, 50, v));
        quiet("the 17th", FULL, x, y -> y.stuff(0, 1, 1, 0));
        due("the 16th", 15, fullOfStuffs(15).stuff(0, 1, 1, 0));

        sentence(11, "STUFFS by a ROW of fours (SORT, WORTH, AMOUNT, OWNER): how many.");
        for (int n : new int[] {0, 1, 2, 10}) {
            MarbleLaw y = new MarbleLaw();
            y.row(0, 4 * n);
            for (int i = 0; i < 4 * n; i++) y.lay(0, i, i % 4 == 0 ? i / 4 % 10 : i % 4 == 3 ? i / 4 % 6 : 1 + i);
            due("fours: " + n, n, y.stuffs(0));
            due("count", n, y.count(2));
            for (int s = 0; s < n; s++) {
                int stuff = s;
                tells("SORT", s, y, z -> z.about(stuff, 0));
                tells("WORTH", 2 + 4 * s, y, z -> z.about(stuff, 1));
                tells("AMOUNT", 3 + 4 * s, y, z -> z.about(stuff, 2));
                tells("OWNER", s % 6, y, z -> z.about(stuff, 3));
                tells("debt", 0, y, z -> z.about(stuff, 4));
            }
        }
        sentence(11, "BAD; NOTHING; SIZE: not by fours; FULL: not all would go; UNLIKE: a number.");
        range("r", 0, 5, (y, v) -> y.stuffs(v));
        finds("missing", NOTHING, world(), y -> y.stuffs(2));
        due("an empty ROW", 0, world().stuffs(1));
        for (int n = 1; n < 40; n++) if (n % 4 != 0) finds("a ROW of " + n, SIZE, rowed(0, n, 1), y -> y.stuffs(0));
        due("just all go", 2, rowed(14, 8, 1).stuffs(0));
        quiet("one would not go", FULL, rowed(15, 8, 1), y -> y.stuffs(0));
        quiet("none would go", FULL, rowed(16, 4, 1), y -> y.stuffs(0));
        due("none come when full", 0, rowed(16, 0, 1).stuffs(0));
        due("ten go", 10, rowed(6, 40, 1).stuffs(0));
        quiet("ten don't go", FULL, rowed(7, 40, 1), y -> y.stuffs(0));
        int[][] edges = {{0, 9}, {1, 99}, {1, 99}, {0, 5}};
        for (int place = 0; place < 8; place++) {
            int[] edge = edges[place % 4];
            for (int v : new int[] {edge[0], edge[1]}) {
                MarbleLaw y = rowed(0, 8, 1);
                y.lay(0, place, v);
                due("place " + place + " is " + v, 2, y.stuffs(0));
            }
            for (int v : new int[] {edge[0] - 1, edge[1] + 1, LOW, HIGH}) {
                MarbleLaw y = rowed(0, 8, 1);
                y.lay(0, place, v);
                finds("place " + place + " is " + v, UNLIKE, y, z -> z.stuffs(0));
            }
        }
        sentence(11, "(In this order; all or none.)");
        bad("BAD", world(), y -> y.stuffs(6));
        finds("SIZE ahead of FULL", SIZE, rowed(16, 5, 1), y -> y.stuffs(0));
        finds("SIZE ahead of UNLIKE", SIZE, rowed(0, 5, -1), y -> y.stuffs(0));
        quiet("FULL ahead of UNLIKE", FULL, rowed(16, 4, -1), y -> y.stuffs(0));
        quiet("FULL ahead of UNLIKE", FULL, rowed(15, 8, 0), y -> y.stuffs(0));
        finds("UNLIKE at last", UNLIKE, rowed(14, 8, 0), y -> y.stuffs(0));
        MarbleLaw last = rowed(3, 12, 1);
        last.lay(0, 11, 6);
        finds("none, though the first would go", UNLIKE, last, y -> y.stuffs(0));
        due("none", 3, last.count(2));

        sentence(12, "A debt (0 .. 999) of a STUFF: what it was.");
        MarbleLaw d = world();
        due("0 at first", 0, d.debt(0, 999));
        due("999", 999, d.debt(0, 998));
        due("998", 998, d.debt(0, 0));
        due("0", 0, d.debt(0, 1));
        due("another's", 5, d.debt(2, 0));
        sentence(12, "BAD.");
        range("s", 0, 2, (y, v) -> y.debt(v, 1));
        range("v", 0, 999, (y, v) -> y.debt(1, v));
        bad("no STUFF", new MarbleLaw(), y -> y.debt(0, 0));

        makingsAndMarks();
    }

    /** So many STUFFS, and ROW 0 of so many places, all alike. */
    private static MarbleLaw rowed(int stuffs, int n, int v) {
        MarbleLaw x = fullOfStuffs(stuffs);
        x.row(0, n);
        for (int i = 0; i < n; i++) x.lay(0, i, v);
        return x;
    }

    private static void makingsAndMarks() {
        sentence(13, "A MAKING of a KIND: its number.");
        MarbleLaw m = stuffs(0, 1);
        for (int i = 0; i < 12; i++) due("MAKING " + i, i, m.making(i % 7, 0, 1, 5, 99, 5, true));
        due("count", 12, m.count(3));
        sentence(13, "v: FORM the SORT; JOIN, MIX, BUILD t (not s); GROW the AMOUNT 1 .. 99; others not looked at (0).");
        range("FORM", 0, 9, (x, v) -> x.making(FORM, 0, v, 0, 0, 0, false));
        range("GROW", 1, 99, (x, v) -> x.making(GROW, 0, v, 0, 0, 0, false));
        range("JOIN", 1, 2, (x, v) -> x.making(JOIN, 0, v, 0, 0, 0, false));
        range("BUILD", 0, 1, (x, v) -> x.making(BUILD, 2, v, 0, 0, 0, false));
        range("MIX", 1, 2, () -> stuffs(0, 1, 2), (x, v) -> x.making(MIX, 0, v, 0, 0, 0, false));
        for (int kind : new int[] {JOIN, MIX, BUILD}) bad("s", world(), x -> x.making(kind, 2, 2, 0, 0, 0, false));
        for (int kind : new int[] {NOTE, WRITE}) {
            for (int v : new int[] {LOW, -1, 0, 1, 100, HIGH}) {
                MarbleLaw x = stuffs(0);
                due("not looked at", 0, x.making(kind, 0, v, 0, 0, 0, false));
                tells("0", 0, x, y -> y.told(0, 2));
            }
        }
        sentence(13, "BAD; FULL; UNLIKE: MIX of SORTS (as told at first) that are not alike.");
        range("kind", 0, 6, (x, v) -> x.making(v, 0, 1, 0, 0, 0, true));
        range("s", 0, 2, (x, v) -> x.making(GROW, v, 1, 0, 0, 0, true));
        range("maker", 0, 5, (x, v) -> x.making(JOIN, 0, 1, v, 0, 0, true));
        range("work", 0, 99, (x, v) -> x.making(FORM, 0, 1, 0, v, 0, true));
        range("knew", 0, 5, (x, v) -> x.making(WRITE, 0, 1, 0, 0, v, true));
        bad("no STUFF", new MarbleLaw(), x -> x.making(NOTE, 0, 0, 0, 0, 0, false));
        due("the 12th", 11, fullOfMakings(11).making(MIX, 0, 1, 0, 0, 0, false));
        for (int kind = 0; kind <= 6; kind++) {
            int k = kind;
            quiet("the 13th", FULL, fullOfMakings(12), x -> x.making(k, 0, 1, 0, 0, 0, false));
        }
        finds("not alike", UNLIKE, fullOfMakings(11), x -> x.making(MIX, 0, 2, 0, 0, 0, false));
        finds("not alike", UNLIKE, fullOfMakings(0), x -> x.making(MIX, 2, 0, 0, 0, 0, false));
        due("JOIN of what is not alike", 0, fullOfMakings(0).making(JOIN, 0, 2, 0, 0, 0, false));
        due("BUILD of what is not alike", 0, fullOfMakings(0).making(BUILD, 0, 2, 0, 0, 0, false));
        MarbleLaw formed = stuffs(0, 1);
        formed.making(FORM, 0, 2, 0, 0, 0, false);
        due("alike at first", 1, formed.making(MIX, 0, 1, 0, 0, 0, false));

        sentence(14, "Of a STUFF: 0 its first SORT, 1 WORTH, 2 AMOUNT, 3 OWNER, 4 debt, told by asked(): 1.");
        int[] about = {1, 30, 40, 1, 0};
        MarbleLaw w = world();
        for (int what = 0; what < 5; what++) {
            int k = what;
            tells("what " + k, about[k], w, x -> x.about(1, k));
        }
        tells("the last STUFF's debt", 5, w, x -> x.about(2, 4));
        sentence(14, "BAD.");
        range("s", 0, 2, (x, v) -> x.about(v, 0));
        range("what", 0, 4, (x, v) -> x.about(0, v));

        sentence(15, "Of a MAKING: 0 its KIND, 1 s, 2 v, 3 the MAKER, 4 WORK, 5 whether he KNEW, 6 whether it can be PARTED (1, 0;"
                + " of KINDS 2, 5, else 0), told by asked(): 1.");
        int[] told = {JOIN, 2, 1, 4, 3, 2, 1};
        for (int what = 0; what < 7; what++) {
            int k = what;
            tells("what " + k, told[k], w, x -> x.told(1, k));
        }
        for (int kind = 0; kind <= 6; kind++) {
            MarbleLaw x = stuffs(0, 1);
            x.making(kind, 0, 1, 0, 0, 0, true);
            tells("PARTED, KIND " + kind, kind == JOIN || kind == BUILD ? 1 : 0, x, y -> y.told(0, 6));
        }
        sentence(15, "BAD.");
        range("m", 0, 1, (x, v) -> x.told(v, 0));
        range("what", 0, 6, (x, v) -> x.told(0, v));
        bad("no MAKING", stuffs(0), x -> x.told(0, 0));

        marks();
    }

    private static void marks() {
        sentence(16, "What a MAKING that IS of a KIND tells: a FORM its SORT, a JOIN (WRITE, BUILD, too) how many STUFFS have come to"
                + " its s by it (0, 1), a MIX t, a WRITE its WORK, a BUILD t, a GROW the AMOUNT.");
        int[] own = {FINDING, 2, 1, 2, 99, 2, 2};
        for (int kind = 1; kind <= 6; kind++) {
            MarbleLaw x = stuffs(0, 1, 2);
            x.making(kind, 0, 2, 0, 99, 0, false);
            due("KIND " + kind, own[kind], x.mark(0, kind));
            if (kind == JOIN || kind == BUILD) due("one came by KIND " + kind, 1, x.mark(0, JOIN));
            if (kind == WRITE) due("none came by WRITE", 0, x.mark(0, JOIN));
        }
        for (int kind : new int[] {JOIN, BUILD}) {
            MarbleLaw x = stuffs(0, 1, 2);
            x.making(kind, 0, 2, 0, 0, 0, false);
            x.making(kind, 0, 2, 0, 0, 0, false);
            x.making(kind, 2, 0, 0, 0, 0, false);
            x.making(kind, 1, 2, 0, 0, 0, false);
            due("one came by KIND " + kind, 1, x.mark(0, JOIN));
            due("it was there already", 0, x.mark(1, JOIN));
            due("it was in it already", 0, x.mark(2, JOIN));
            due("one, though with another in it", 1, x.mark(3, JOIN));
        }
        MarbleLaw edges = stuffs(0);
        edges.making(FORM, 0, 0, 0, 0, 0, false);
        edges.making(FORM, 0, 9, 0, 0, 0, false);
        edges.making(WRITE, 0, 0, 0, 0, 0, false);
        edges.making(GROW, 0, 1, 0, 0, 0, false);
        edges.making(GROW, 0, 99, 0, 0, 0, false);
        due("SORT 0", 0, edges.mark(0, FORM));
        due("SORT 9", 9, edges.mark(1, FORM));
        due("WORK 0", 0, edges.mark(2, WRITE));
        due("AMOUNT 1", 1, edges.mark(3, GROW));
        due("AMOUNT 99", 99, edges.mark(4, GROW));
        sentence(16, "BAD: also KIND 0; UNLIKE.");
        range("m", 0, 1, (x, v) -> x.mark(v, JOIN));
        range("kind", 1, 6, (x, v) -> x.mark(0, v));
        for (int made = 0; made <= 6; made++) {
            for (int kind = 0; kind <= 6; kind++) {
                int k = kind;
                MarbleLaw x = stuffs(0, 1);
                x.making(made, 0, 1, 0, 0, 0, false);
                boolean is = kind == made || kind == JOIN && (made == WRITE || made == BUILD);
                if (kind == 0) bad("KIND 0", x, y -> y.mark(0, k));
                else if (!is) finds("a " + made + " is no " + kind, UNLIKE, x, y -> y.mark(0, k));
                else due("a " + made + " is a " + kind, 1, x.mark(0, k) >= 0 ? 1 : 0);
            }
        }
    }

    private static void promises17To21() {
        sentence(17, "A FAULT of a TEXT; NONE: there is none.");
        MarbleLaw x = world();
        quiet("an empty TEXT", NONE, x, y -> y.fault(1));
        quiet("blanks", NONE, x, y -> y.fault(0));
        x.put(0, 3, 'F');
        quiet("its size", 4, x, y -> y.fault(0));
        x.put(0, 2, 'F');
        quiet("the last place", 3, x, y -> y.fault(0));
        x.put(0, 3, 's');
        quiet("none", NONE, x, y -> y.fault(0));
        x.put(0, 0, 's');
        quiet("the first place", 0, x, y -> y.fault(0));
        sentence(17, "BAD; NOTHING.");
        range("t", 0, 3, (y, v) -> y.fault(v));
        finds("missing", NOTHING, world(), y -> y.fault(2));

        sentence(18, "LAWS by a TEXT (anew): a number (F by 10000: 1 s, 2 m, 3 g; J by 1000, M by 100, W by 10, K by 1: 1 as listed"
                + " first, 2 second).");
        MarbleLaw n = new MarbleLaw();
        for (int f = 0; f < 3; f++) for (int j = 0; j < 2; j++) for (int m = 0; m < 2; m++) for (int w = 0; w < 2; w++)
            for (int k = 0; k < 2; k++) {
                String words = "F" + "smg".charAt(f) + "J" + "cp".charAt(j) + "M" + "aw".charAt(m) + "W" + "cm".charAt(w)
                        + "K" + "yn".charAt(k);
                MarbleLaw y = new MarbleLaw();
                due(words, 11111 + 10000 * f + 1000 * j + 100 * m + 10 * w + k, legislate(y, k, words));
                due(words, 11111 + 10000 * f + 1000 * j + 100 * m + 10 * w + k, y.law(k));
                due("one of them", 1, y.count(5));
            }
        legislate(n, 0, "Fg");
        due("anew", 11111, legislate(n, 0, "Ky"));
        due("still one", 1, n.count(5));
        n.text(3, 0);
        due("LAWS stay when their TEXT goes", 11111, n.law(0));
        sentence(18, "BAD; NOTHING; STATE: a FAULT.");
        range("l", 0, 3, (y, v) -> y.laws(v, 0));
        range("t", 0, 3, (y, v) -> y.laws(0, v));
        finds("missing", NOTHING, world(), y -> y.laws(0, 2));
        MarbleLaw faulty = world();
        write(faulty, 2, "Fs F");
        quiet("a FAULT", STATE, faulty, y -> y.laws(1, 2));
        quiet("a FAULT of LAWS that are missing", STATE, faulty, y -> y.laws(3, 2));
        due("as they were", 22121, faulty.law(1));
        due("missing still", 2, faulty.count(5));
        write(faulty, 2, "Fs J");
        quiet("its end too early", STATE, faulty, y -> y.laws(1, 2));
        write(faulty, 2, "Fs  ");
        due("no FAULT", 11112, faulty.laws(1, 2));
        sentence(18, "(STATE behind NOTHING.)");
        bad("BAD ahead of STATE", withFault(), y -> y.laws(4, 0));
        finds("NOTHING", NOTHING, withFault(), y -> y.laws(0, 2));
        quiet("STATE", STATE, withFault(), y -> y.laws(0, 0));

        sentence(19, "LAWS' number, as laws() told.");
        due("of none told", 11112, world().law(0));
        due("of some told", 22121, world().law(1));
        sentence(19, "BAD; NOTHING.");
        range("l", 0, 3, (y, v) -> y.law(v));
        finds("missing", NOTHING, world(), y -> y.law(2));

        sentence(20, "That in which a STUFF is behind the first m MAKINGS (itself, if in none).");
        int[][] inside = {{0, 1, 2}, {0, 0, 2}, {2, 2, 2}};
        for (int m = 0; m <= 2; m++) for (int s = 0; s < 3; s++) due(s + " behind " + m, inside[m][s], world().inside(s, m));
        due("of all", 15, fullOfStuffs(16).inside(15, 0));
        sentence(20, "BAD.");
        range("s", 0, 2, (y, v) -> y.inside(v, 0));
        range("m", 0, 2, (y, v) -> y.inside(0, v));
        bad("no STUFF", new MarbleLaw(), y -> y.inside(0, 0));

        sentence(21, "Of that in which a STUFF is behind m MAKINGS: 0 SORT, 1 WORTH, 2 AMOUNT, 3 debts that RIDE on it.");
        int[][] now = {{1, 30, 40, 0}, {1, 59, 50, 0}, {2, 69, 7, 5}};
        for (int m = 0; m <= 2; m++) {
            for (int what = 0; what < 4; what++) due("behind " + m + ", " + what, now[m][what], world().now(1, m, what));
        }
        MarbleLaw full = fullOfStuffs(16);
        for (int s = 0; s < 16; s++) full.debt(s, 999);
        for (int s = 1; s <= 12; s++) full.making(BUILD, 0, s, 0, 0, 0, false);
        due("the most debts", 13 * 999, full.now(0, 12, 3));
        sentence(21, "BAD.");
        range("s", 0, 2, (y, v) -> y.now(v, 0, 0));
        range("m", 0, 2, (y, v) -> y.now(0, v, 0));
        range("what", 0, 3, (y, v) -> y.now(0, 0, v));
    }

    private static MarbleLaw withFault() {
        MarbleLaw x = world();
        write(x, 0, "x");
        return x;
    }

    private static void promises22To26() {
        sentence(22, "The part of a PERSON in that in which a STUFF is behind m MAKINGS, by LAWS, ANSWERS, told by upper(), lower():"
                + " 1, if he has some, else 0.");
        MarbleLaw w = world();
        due("all of itself", 1, w.whose(0, 1, 0, 15, 1));
        fraction("all of itself", 1, 1, w);
        due("a part", 1, w.whose(0, 1, 1, 0, 1));
        fraction("a part", 4, 5, w);
        due("nothing", 0, w.whose(0, 1, 2, 0, 1));
        fraction("nothing", 0, 1, w);
        due("by LAWS 1", 1, w.whose(1, 1, 2, 0, 1));
        fraction("by LAWS 1: 59 of 66, four fifths of them", 118, 165, w);
        due("the least part", 1, fine(10000).whose(0, 0, 3, 0, 0));
        sentence(22, "BAD; NOTHING; SIZE.");
        range("l", 0, 3, (x, v) -> x.whose(v, 0, 0, 0, 0));
        range("s", 0, 2, (x, v) -> x.whose(0, v, 0, 0, 0));
        range("m", 0, 2, (x, v) -> x.whose(0, 0, v, 0, 0));
        range("answers", 0, 15, (x, v) -> x.whose(0, 0, 0, v, 0));
        range("person", 0, 5, (x, v) -> x.whose(0, 0, 0, 0, v));
        finds("missing", NOTHING, world(), x -> x.whose(2, 0, 2, 0, 0));
        finds("too fine", SIZE, fine(10001), x -> x.whose(0, 0, 3, 0, 0));
        due("just as fine", 1, fine(10000).whose(0, 0, 3, 0, 0));
        sentence(22, "(These refuse all calls of PARTS.)");
        MarbleLaw missing = world();
        finds("whose", NOTHING, missing, x -> x.whose(3, 0, 0, 0, 0));
        finds("owners", NOTHING, missing, x -> x.owners(3, 0, 0, 0));
        finds("changes", NOTHING, missing, x -> x.changes(3, 0, 0, 0));
        finds("lost", NOTHING, missing, x -> x.lost(3, 0, 0, 0));
        finds("beside", NOTHING, missing, x -> x.beside(3, 3, 0));
        finds("sure", NOTHING, missing, x -> x.sure(3, 0, 0, 0));
        finds("hangs", NOTHING, missing, x -> x.hangs(3, 0, 0, 0));
        finds("sly", NOTHING, missing, x -> x.sly(3, 0, 0, 0));
        finds("stop", NOTHING, missing, x -> x.stop(3, 0, 0, 0));
        finds("inTime", NOTHING, missing, x -> x.inTime(3, 0, 0));
        for (int lower : new int[] {10000, 10001}) {
            for (int call = 0; call < 10; call++) {
                int k = call;
                if (lower == 10001) finds("too fine, call " + call, SIZE, fine(lower), x -> callOfParts(x, k));
                else due("just as fine, call " + call, 0, callOfParts(fine(lower), call) == FINDING ? FINDING : 0);
            }
        }

        sentence(23, "PERSONS (bits) who have some.");
        due("one", 2, world().owners(0, 1, 0, 0));
        due("two", 3, world().owners(0, 1, 1, 0));
        due("s's", 4, world().owners(0, 1, 2, 0));
        due("three", 7, world().owners(1, 1, 2, 0));
        sentence(23, "BAD; NOTHING; SIZE.");
        range("l", 0, 3, (x, v) -> x.owners(v, 0, 0, 0));
        range("s", 0, 2, (x, v) -> x.owners(0, v, 0, 0));
        range("m", 0, 2, (x, v) -> x.owners(0, 0, v, 0));
        range("answers", 0, 15, (x, v) -> x.owners(0, 0, 0, v));
        finds("missing", NOTHING, world(), x -> x.owners(2, 0, 2, 0));
        finds("too fine", SIZE, fine(10001), x -> x.owners(0, 4, 3, 0));
        due("just as fine", 32, fine(10000).owners(0, 4, 3, 0));

        sentence(24, "The first MAKING (0 on) behind which a PERSON's part of that in which a STUFF is is another than behind those"
                + " ahead of it; NONE.");
        quiet("the first", 0, world(), x -> x.changes(0, 0, 0, 0));
        quiet("the last", 1, world(), x -> x.changes(0, 0, 0, 2));
        quiet("none", NONE, world(), x -> x.changes(0, 2, 0, 2));
        quiet("none, for him who has nothing", NONE, world(), x -> x.changes(0, 0, 0, 5));
        quiet("of no MAKINGS", NONE, stuffsWithLaws("", 0), x -> x.changes(0, 0, 0, 0));
        quiet("of 12 MAKINGS none", NONE, twoLaws(fullOfMakings(12)), x -> x.changes(1, 0, 0, 0));
        MarbleLaw same = stuffsWithLaws("", 0, 0);
        same.making(MIX, 0, 1, 0, 0, 0, false);
        quiet("both his", NONE, same, x -> x.changes(0, 1, 0, 0));
        MarbleLaw more = stuffsWithLaws("", 0, 1, 0);
        more.making(MIX, 0, 1, 0, 0, 0, false);
        more.making(MIX, 0, 2, 0, 0, 0, false);
        quiet("a part that grows again, of him who came last", 1, more, x -> x.changes(0, 2, 0, 0));
        MarbleLaw twelfth = fullOfMakings(11);
        legislate(twelfth, 0, "Wm");
        twelfth.making(WRITE, 0, 0, 1, 0, 0, false);
        quiet("the twelfth", 11, twelfth, x -> x.changes(0, 0, 0, 1));
        sentence(24, "BAD; NOTHING; SIZE.");
        range("l", 0, 3, (x, v) -> x.changes(v, 0, 0, 0));
        range("s", 0, 2, (x, v) -> x.changes(0, v, 0, 0));
        range("answers", 0, 15, (x, v) -> x.changes(0, 0, v, 0));
        range("person", 0, 5, (x, v) -> x.changes(0, 0, 0, v));
        finds("missing", NOTHING, world(), x -> x.changes(2, 0, 0, 0));
        finds("too fine", SIZE, fine(10001), x -> x.changes(0, 4, 0, 5));
        quiet("just as fine", NONE, fine(10000), x -> x.changes(0, 4, 0, 5));
        quiet("ahead of the one too fine", 0, fine(10001), x -> x.changes(0, 0, 0, 0));

        lossesAndLaws();
    }

    /** Each call that looks at PARTS of fine(): behind its last MAKING, or at it. */
    private static long callOfParts(MarbleLaw x, int call) {
        switch (call) {
            case 0: return x.whose(0, 4, 3, 0, 5);
            case 1: return x.owners(0, 4, 3, 0);
            case 2: return x.changes(0, 4, 0, 5);
            case 3: return x.lost(0, 2, 0, 5);
            case 4: return x.beside(0, 0, 0);
            case 5: return x.sure(0, 4, 3, 5);
            case 6: return x.hangs(0, 4, 3, 5);
            case 7: return x.sly(0, 4, 5, 0);
            case 8: return x.stop(0, 4, 5, 0);
            default: return x.inTime(0, 4, 5);
        }
    }

    private static void lossesAndLaws() {
        sentence(25, "LOST by MAKING m for a PERSON, told by upper(), lower(): 1 lost, 0 neither, 2 gained.");
        MarbleLaw w = world();
        due("lost", 1, w.lost(0, 0, 0, 0));
        fraction("lost: 20 less a fifth of 50", 10, 1, w);
        due("gained", 2, w.lost(0, 0, 0, 1));
        fraction("gained", -10, 1, w);
        due("neither", 0, w.lost(0, 0, 0, 5));
        fraction("neither", 0, 1, w);
        due("lost by the last", 1, w.lost(0, 1, 0, 0));
        fraction("lost: a fifth of 59", 59, 5, w);
        due("gained by the last", 2, w.lost(0, 1, 0, 2));
        fraction("gained: 59", -59, 1, w);
        due("neither, by WORTH", 0, w.lost(1, 1, 0, 1));
        for (int worth = 1; worth <= 2; worth++) {
            MarbleLaw least = new MarbleLaw();
            least.stuff(0, worth, 1, 0);
            least.making(WRITE, 0, 0, 1, 0, 0, false);
            legislate(least, 0, "Wm");
            due("the least that is lost", 1, least.lost(0, 0, 0, 0));
            fraction("the least that is lost", worth, 1, least);
            due("the least that is gained", 2, least.lost(0, 0, 0, 1));
            fraction("the least that is gained", -worth, 1, least);
        }
        sentence(25, "BAD; NOTHING; SIZE.");
        range("l", 0, 3, (x, v) -> x.lost(v, 0, 0, 0));
        range("m", 0, 1, (x, v) -> x.lost(0, v, 0, 0));
        range("answers", 0, 15, (x, v) -> x.lost(0, 0, v, 0));
        range("person", 0, 5, (x, v) -> x.lost(0, 0, 0, v));
        bad("no MAKING", stuffsWithLaws("", 0), x -> x.lost(0, 0, 0, 0));
        finds("missing", NOTHING, world(), x -> x.lost(2, 0, 0, 0));
        finds("too fine", SIZE, fine(10001), x -> x.lost(0, 2, 0, 0));
        due("ahead of the one too fine", 0, fine(10001).lost(0, 1, 0, 2));
        due("just as fine", 0, fine(10000).lost(0, 2, 0, 0));
        MarbleLaw behind = fine(10001);
        behind.making(NOTE, 4, 0, 0, 0, 0, false);
        finds("behind the one too fine", SIZE, behind, x -> x.lost(0, 3, 0, 0));

        sentence(26, "The first MAKING at which two LAWS part (some PERSON's part of that in which its s is); NONE.");
        quiet("at the last", 1, world(), x -> x.beside(0, 1, 0));
        quiet("at the last", 1, world(), x -> x.beside(1, 0, 0));
        quiet("LAWS and themselves", NONE, world(), x -> x.beside(1, 1, 0));
        MarbleLaw first = world();
        legislate(first, 3, "Mw");
        quiet("at the first", 0, first, x -> x.beside(0, 3, 0));
        legislate(first, 3, "Fg Wm Ky");
        quiet("other LAWS that tell the same", NONE, first, x -> x.beside(0, 3, 0));
        quiet("no MAKINGS", NONE, twoLaws(stuffs(0)), x -> x.beside(0, 1, 0));
        quiet("12 MAKINGS", NONE, twoLaws(fullOfMakings(12)), x -> x.beside(0, 1, 0));
        MarbleLaw asked = twoLaws(stuffs(0));
        asked.making(WRITE, 0, 0, 1, 0, 5, false);
        quiet("by ANSWERS 7", 0, asked, x -> x.beside(0, 1, 7));
        quiet("by ANSWERS 8", NONE, asked, x -> x.beside(0, 1, 8));
        MarbleLaw twelfth = twoLaws(fullOfMakings(11));
        twelfth.making(WRITE, 0, 0, 1, 0, 0, false);
        quiet("at the twelfth", 11, twelfth, x -> x.beside(0, 1, 0));
        MarbleLaw gone = twoLaws(stuffs(0));
        gone.making(WRITE, 0, 0, 0, 0, 0, false);
        quiet("he had it", NONE, gone, x -> x.beside(0, 1, 0));
        sentence(26, "BAD; NOTHING: either; SIZE.");
        range("l", 0, 3, (x, v) -> x.beside(v, 0, 0));
        range("other", 0, 3, (x, v) -> x.beside(0, v, 0));
        range("answers", 0, 15, (x, v) -> x.beside(0, 1, v));
        finds("the one missing", NOTHING, world(), x -> x.beside(2, 0, 0));
        finds("the other missing", NOTHING, world(), x -> x.beside(0, 2, 0));
        finds("both missing", NOTHING, world(), x -> x.beside(2, 3, 0));
        finds("the one too fine", SIZE, fine(10001), x -> x.beside(0, 1, 0));
        finds("the other too fine", SIZE, fine(10001), x -> x.beside(1, 0, 0));
        quiet("just as fine", 2, fine(10000), x -> x.beside(0, 1, 0));
        MarbleLaw ahead = fine(10001);
        legislate(ahead, 2, "Mw");
        quiet("ahead of the one too fine", 0, ahead, x -> x.beside(0, 2, 0));
    }

    /** LAWS 0: W c; LAWS 1: W m, K y. */
    private static MarbleLaw twoLaws(MarbleLaw x) {
        legislate(x, 0, "");
        legislate(x, 1, "Wm Ky");
        return x;
    }

    private static void promises27To32() {
        sentence(27, "Whether a MAKING can be PARTED again behind the first m: 1 (what it SAVES less what it costs by asked()), 0.");
        tells("1", 59 - 7, world(), x -> x.undo(1, 2));
        quiet("0, a MIX", 0, world(), x -> x.undo(0, 2));
        MarbleLaw later = world();
        later.making(GROW, 0, 1, 0, 0, 0, false);
        tells("1, behind 2 of 3", 52, later, x -> x.undo(1, 2));
        MarbleLaw quiet = world();
        quiet.making(GROW, 0, 1, 0, 0, 0, false);
        quiet("0, behind 3 of 3: asked() stays", 0, quiet, x -> x.undo(1, 3));
        tells("below 0", -19, parted(BUILD, 99, 1, 99), x -> x.undo(0, 1));
        sentence(27, "BAD: also a MAKING that is not among them.");
        range("made, of 2", 0, 1, (x, v) -> x.undo(v, 2));
        range("made, of 1", 0, 0, (x, v) -> x.undo(v, 1));
        range("m", 2, 2, (x, v) -> x.undo(1, v));
        bad("of none", world(), x -> x.undo(0, 0));
        bad("no MAKINGS", stuffs(0), x -> x.undo(0, 0));
        bad("no MAKINGS", stuffs(0), x -> x.undo(0, 1));

        sentence(28, "2 SURE, 1 OPEN, 0 OUT, behind m MAKINGS.");
        MarbleLaw open = stuffsWithLaws("Wm Ky", 0);
        open.making(WRITE, 0, 0, 1, 0, 5, false);
        quiet("SURE", 2, open, x -> x.sure(0, 0, 0, 0));
        quiet("OUT", 0, open, x -> x.sure(0, 0, 0, 1));
        quiet("OPEN", 1, open, x -> x.sure(0, 0, 1, 0));
        quiet("OPEN", 1, open, x -> x.sure(0, 0, 1, 1));
        quiet("OUT still", 0, open, x -> x.sure(0, 0, 1, 2));
        sentence(28, "BAD; NOTHING; SIZE.");
        range("l", 0, 3, (x, v) -> x.sure(v, 0, 0, 0));
        range("s", 0, 2, (x, v) -> x.sure(0, v, 0, 0));
        range("m", 0, 2, (x, v) -> x.sure(0, 0, v, 0));
        range("person", 0, 5, (x, v) -> x.sure(0, 0, 0, v));
        finds("missing", NOTHING, world(), x -> x.sure(2, 0, 0, 0));
        finds("too fine", SIZE, fine(10001), x -> x.sure(0, 0, 3, 0));
        due("just as fine", 2, fine(10000).sure(0, 0, 3, 0));
        due("ahead of it", 2, fine(10001).sure(0, 0, 2, 0));
        for (int knew = 0; knew <= 5; knew++) {
            MarbleLaw x = fineUnlessTaken(knew);
            if (knew == 0) due("too fine by no ANSWERS", 2, x.sure(0, 0, 4, 5));
            else finds("too fine by some ANSWERS", SIZE, x, y -> y.sure(0, 0, 4, 5));
        }
        finds("too fine by half of the ANSWERS, 0 among them", SIZE, fineIfTaken(), y -> y.sure(0, 0, 4, 5));

        sentence(29, "On which questions it HANGS (bits; 0: none).");
        quiet("none", 0, open, x -> x.hangs(0, 0, 0, 0));
        quiet("one", 8, open, x -> x.hangs(0, 0, 1, 0));
        quiet("none, OUT", 0, open, x -> x.hangs(0, 0, 1, 2));
        MarbleLaw four = stuffsWithLaws("Wm Ky", 0);
        for (int q = 0; q < 4; q++) four.making(WRITE, 0, 0, 1, 0, 5 - q, false);
        quiet("all", 15, four, x -> x.hangs(0, 0, 4, 1));
        quiet("all but the first", 14, four, x -> x.hangs(0, 0, 3, 1));
        sentence(29, "BAD; NOTHING; SIZE.");
        range("l", 0, 3, (x, v) -> x.hangs(v, 0, 0, 0));
        range("s", 0, 2, (x, v) -> x.hangs(0, v, 0, 0));
        range("m", 0, 2, (x, v) -> x.hangs(0, 0, v, 0));
        range("person", 0, 5, (x, v) -> x.hangs(0, 0, 0, v));
        finds("missing", NOTHING, world(), x -> x.hangs(2, 0, 0, 0));
        finds("too fine", SIZE, fine(10001), x -> x.hangs(0, 0, 3, 0));
        due("just as fine", 0, fine(10000).hangs(0, 0, 3, 0));
        for (int knew = 0; knew <= 5; knew++) {
            MarbleLaw x = fineUnlessTaken(knew);
            if (knew == 0) due("too fine by no ANSWERS", 0, x.hangs(0, 0, 4, 5));
            else finds("too fine by some ANSWERS", SIZE, x, y -> y.hangs(0, 0, 4, 5));
        }
        finds("too fine by half of the ANSWERS, 0 among them", SIZE, fineIfTaken(), y -> y.hangs(0, 0, 4, 5));
        slyAndStopCalls();
    }

    /** As fine(10001), but PERSON 5 takes all ahead of the JOIN, unless he KNEW. */
    private static MarbleLaw fineUnlessTaken(int knew) {
        MarbleLaw x = new MarbleLaw();
        x.stuff(0, 1, 1, 0);
        x.stuff(0, 1, 72, 1);
        x.stuff(0, 68, 1, 2);
        x.stuff(0, 67, 1, 2);
        x.making(MIX, 0, 1, 0, 0, 0, false);
        x.making(MIX, 2, 3, 0, 0, 0, false);
        x.making(WRITE, 0, 0, 5, 0, knew, false);
        x.making(JOIN, 0, 2, 0, 0, 0, false);
        legislate(x, 0, "Jp Wm Ky");
        return x;
    }

    /** As fine(10001) by ANSWERS 0, when PERSON 5 has STUFF 1 by writing on it; all is PERSON 0's by ANSWERS 1. */
    private static MarbleLaw fineIfTaken() {
        MarbleLaw x = new MarbleLaw();
        x.stuff(0, 1, 1, 0);
        x.stuff(0, 1, 72, 0);
        x.stuff(0, 68, 1, 2);
        x.stuff(0, 67, 1, 2);
        x.making(WRITE, 1, 0, 5, 0, 2, false);
        x.making(MIX, 0, 1, 0, 0, 0, false);
        x.making(MIX, 2, 3, 0, 0, 0, false);
        x.making(JOIN, 0, 2, 0, 0, 0, false);
        legislate(x, 0, "Jp Wm Ky");
        return x;
    }

    private static void slyAndStopCalls() {
        sentence(30, "By which MAKING (1, 2, 3) a TAKER is SLY; 0: he has all already; NONE: by none.");
        quiet("0", 0, stuffsWithLaws("Fm", 0, 1), x -> x.sly(0, 0, 0, 0));
        quiet("1", 1, stuffsWithLaws("Fm", 0, 1), x -> x.sly(0, 0, 1, 0));
        quiet("2", 2, stuffsWithLaws("Wm", 0, 1), x -> x.sly(0, 0, 1, 0));
        quiet("3", 3, stuffsWithLaws("", 0, 1), x -> x.sly(0, 0, 1, 0));
        quiet("NONE", NONE, stuffsWithLaws("", 0, 1), x -> x.sly(0, 0, 2, 0));
        MarbleLaw some = stuffsWithLaws("", 0, 1);
        some.making(MIX, 0, 1, 0, 0, 0, false);
        quiet("NONE, though he has some", NONE, some, x -> x.sly(0, 0, 0, 99));
        sentence(30, "BAD: also WORK; NOTHING; SIZE.");
        range("l", 0, 3, (x, v) -> x.sly(v, 0, 0, 0));
        range("s", 0, 2, (x, v) -> x.sly(0, v, 0, 0));
        range("person", 0, 5, (x, v) -> x.sly(0, 0, v, 0));
        range("work", 0, 99, (x, v) -> x.sly(0, 0, 0, v));
        bad("no STUFF", new MarbleLaw(), x -> x.sly(0, 0, 0, 0));
        finds("missing", NOTHING, world(), x -> x.sly(2, 0, 0, 0));
        finds("too fine", SIZE, fine(10001), x -> x.sly(0, 0, 5, 0));
        due("just as fine", 3, fine(10000).sly(1, 0, 5, 0));
        due("too fine by ANSWERS 1 alone", NONE, fineUnlessTaken(2).sly(0, 0, 5, 0));
        finds("too fine by ANSWERS 0 alone", SIZE, fineIfTaken(), x -> x.sly(0, 0, 5, 0));
        due("by ANSWERS 1", 5, fineIfTaken().owners(0, 0, 4, 1));
        sentence(30, "(Nothing is made.)");
        MarbleLaw full = fullOfMakings(12);
        legislate(full, 0, "Fm");
        quiet("of 12 MAKINGS", 1, full, x -> x.sly(0, 0, 1, 99));
        due("12 still", 12, full.count(3));
        due("WORTH is as it was", 10, full.now(0, 12, 1));
        due("PARTS are as they were", 1, full.owners(0, 0, 12, 0));

        sentence(31, "STOP: LAWS' number; how many WORDS by asked().");
        stopped("0", stuffsWithLaws("Fm Ky", 0), 1, 99, 21111, 0);
        stopped("1", stuffsWithLaws("Wm", 0), 1, 99, 11112, 1);
        stopped("2", stuffsWithLaws("Fm Wm", 0, 1), 1, 99, 22121, 2);
        MarbleLaw three = stuffsWithLaws("Fm Wm", 0, 1);
        three.making(FORM, 0, 1, 1, 0, 0, false);
        stopped("3: he formed it not knowing", three, 1, 0, 12112, 3);
        sentence(31, "NONE: by none.");
        MarbleLaw none = world();
        none.stuff(5, 5, 5, 5);
        quiet("his own", NONE, none, x -> x.stop(0, 3, 5, 99));
        sentence(31, "BAD; NOTHING; SIZE.");
        range("l", 0, 3, (x, v) -> x.stop(v, 0, 0, 0));
        range("s", 0, 2, (x, v) -> x.stop(0, v, 0, 0));
        range("person", 0, 5, (x, v) -> x.stop(0, 0, v, 0));
        range("work", 0, 99, (x, v) -> x.stop(0, 0, 0, v));
        finds("missing", NOTHING, world(), x -> x.stop(2, 0, 0, 0));
        finds("too fine", SIZE, fine(10001), x -> x.stop(0, 0, 5, 0));
        due("just as fine", 12112, fine(10000).stop(0, 0, 5, 0));
        due("other LAWS too fine", 12212, fine(10001).stop(1, 0, 5, 0));
        due("too fine by ANSWERS 1 alone", 12121, fineUnlessTaken(2).stop(0, 0, 5, 0));
        finds("too fine by ANSWERS 0 alone", SIZE, fineIfTaken(), x -> x.stop(0, 0, 5, 0));
        sentence(31, "(LAWS stay.)");
        MarbleLaw stay = stuffsWithLaws("Fm Wm", 0);
        long digest = stay.digest();
        due("LAWS otherwise", 21121, stay.stop(0, 0, 1, 0));
        due("LAWS stay", 21122, stay.law(0));
        due("all stays", digest, stay.digest());

        sentence(32, "IN TIME; NONE: none, or he has something.");
        MarbleLaw x = stuffsWithLaws("Wm", 0, 0);
        x.making(WRITE, 0, 0, 1, 0, 0, false);
        quiet("the first", 0, x, y -> y.inTime(0, 0, 0));
        quiet("he has something", NONE, x, y -> y.inTime(0, 0, 1));
        quiet("none", NONE, x, y -> y.inTime(0, 0, 2));
        quiet("he has something of the other", NONE, x, y -> y.inTime(0, 1, 0));
        x.making(MIX, 1, 0, 0, 0, 0, false);
        quiet("he has a part", NONE, x, y -> y.inTime(0, 0, 0));
        MarbleLaw twelfth = fullOfMakings(11);
        legislate(twelfth, 0, "Wm");
        twelfth.making(WRITE, 0, 0, 1, 0, 0, false);
        quiet("the twelfth", 11, twelfth, y -> y.inTime(0, 0, 0));
        quiet("none of twelve", NONE, twelfth, y -> y.inTime(0, 0, 5));
        sentence(32, "BAD; NOTHING; SIZE.");
        range("l", 0, 3, (y, v) -> y.inTime(v, 0, 0));
        range("s", 0, 2, (y, v) -> y.inTime(0, v, 0));
        range("person", 0, 5, (y, v) -> y.inTime(0, 0, v));
        finds("missing", NOTHING, world(), y -> y.inTime(2, 0, 0));
        finds("too fine", SIZE, fine(10001), y -> y.inTime(0, 0, 5));
        quiet("just as fine", NONE, fine(10000), y -> y.inTime(0, 0, 5));
        quiet("too fine by ANSWERS 1 alone", NONE, fineUnlessTaken(2), y -> y.inTime(0, 0, 5));
        finds("too fine by ANSWERS 0 alone", SIZE, fineIfTaken(), y -> y.inTime(0, 0, 5));
    }

    private static void promises33To36() {
        sentence(33, "A layer comes to a HEAP: how many it has.");
        MarbleLaw x = new MarbleLaw();
        for (int i = 1; i <= 20; i++) due("layer " + i, i, x.heap(3, 5, 99));
        due("another HEAP", 1, x.heap(0, 0, 1));
        sentence(33, "BAD; FULL.");
        range("h", 0, 3, (y, v) -> y.heap(v, 0, 1));
        range("person", 0, 5, (y, v) -> y.heap(0, v, 1));
        range("amount", 1, 99, (y, v) -> y.heap(0, 0, v));
        quiet("the 21st", FULL, x, y -> y.heap(3, 0, 1));
        due("one goes", 19, x.draw(3, 0, 99, 0));
        due("the 20th again", 20, x.heap(3, 0, 1));
        quiet("the 21st again", FULL, x, y -> y.heap(3, 0, 1));

        sentence(34, "n are DRAWN (1 .. 999) from a HEAP by a PERSON by a rule (0 .. 2): how many layers are left (those of 0 go).");
        for (int rule = 0; rule < 3; rule++) {
            due("all but one of a layer", 1, heaped(50).draw(2, 1, 4, rule));
            due("all of a layer", 0, heaped(50).draw(2, 1, 5, rule));
            due("one of one", 0, heaped(10).draw(2, 1, 1, rule));
            due("one of ones", 2, heaped(10, 10, 10).draw(2, 1, 1, rule));
            MarbleLaw most = new MarbleLaw();
            for (int i = 0; i < 20; i++) most.heap(0, i % 6, 99);
            due("999 of 1980, by rule " + rule, rule == 1 ? 20 : 10, most.draw(0, 1, 999, rule));
            due("981 are left", 981, most.left(0, 0) >= 0 ? most.asked() : BAD);
        }
        drawn("those of 0 between go", heaped(50, 31, 42), 0, 4, 2, 50, 31);
        drawn("those of 0 between go", heaped(20, 11, 20), 0, 1, 2, 20, 20);
        sentence(34, "BAD; BEYOND: not so many.");
        range("h", 0, 3, (y, v) -> y.draw(v, 0, 1, 0));
        range("person", 0, 5, (y, v) -> y.draw(0, v, 1, 0));
        range("n", 1, 999, (y, v) -> y.draw(0, 0, v, 0));
        range("rule", 0, 2, (y, v) -> y.draw(0, 0, 1, v));
        for (int rule = 0; rule < 3; rule++) {
            int r = rule;
            due("just so many", 0, world().draw(0, 0, 70, r));
            finds("one too many", BEYOND, world(), y -> y.draw(0, 0, 71, r));
            finds("of an empty HEAP", BEYOND, world(), y -> y.draw(1, 0, 1, r));
        }

        sentence(35, "How much of a HEAP is a PERSON's; how much all is by asked().");
        MarbleLaw l = heaped(50, 31, 40);
        due("his", 9, l.left(2, 0));
        due("all", 12, l.asked());
        due("another's", 3, l.left(2, 1));
        due("nobody's", 0, l.left(2, 5));
        due("all", 12, l.asked());
        due("of an empty HEAP", 0, l.left(3, 0));
        due("nothing", 0, l.asked());
        MarbleLaw most = new MarbleLaw();
        for (int i = 0; i < 20; i++) most.heap(0, 0, 99);
        due("the most", 1980, most.left(0, 0));
        due("the most", 1980, most.asked());
        sentence(35, "BAD.");
        range("h", 0, 3, (y, v) -> y.left(v, 0));
        range("person", 0, 5, (y, v) -> y.left(0, v));

        sentence(36, "Layer i of a HEAP: 10 times its AMOUNT, and the PERSON.");
        MarbleLaw y = new MarbleLaw();
        y.heap(3, 0, 1);
        y.heap(3, 5, 99);
        due("the least", 10, y.layer(3, 0));
        due("the most", 995, y.layer(3, 1));
        sentence(36, "BAD; BEYOND.");
        range("h", 0, 3, (z, v) -> z.layer(v, 0));
        places("i", 2, BoundaryTests::world, (z, v) -> z.layer(0, v));
        finds("of an empty HEAP", BEYOND, world(), z -> z.layer(1, 0));
    }

    private static void promises37To43() {
        sentence(37, "What the latest lay(), at(), mean(), about(), told(), undo() (1), stop(), left() that was not refused (nor NONE)"
                + " told; 0 before.");
        due("before", 0, new MarbleLaw().asked());
        MarbleLaw x = world();
        due("at", 7, x.asked());
        x.lay(0, 1, 3);
        due("lay", 8, x.asked());
        x.mean(0);
        due("mean", 6, x.asked());
        x.about(1, 2);
        due("about", 40, x.asked());
        x.told(1, 4);
        due("told", 3, x.asked());
        x.undo(1, 2);
        due("undo, 1", 52, x.asked());
        x.undo(0, 2);
        due("undo, 0", 52, x.asked());
        x.stop(0, 0, 5, 0);
        due("stop", 0, x.asked());
        x.left(0, 3);
        due("left", 70, x.asked());
        MarbleLaw own = stuffsWithLaws("", 0);
        own.about(0, 1);
        quiet("stop, NONE", NONE, own, y -> y.stop(0, 0, 0, 0));
        due("stop, NONE", 10, own.asked());
        refusedLeaveAsked();

        sentence(38, "The upper number of the fraction that was told last; 0 before.");
        due("before", 0, new MarbleLaw().upper());
        MarbleLaw f = world();
        due("whose", 1, f.upper());
        f.lost(0, 1, 0, 0);
        due("lost", 59, f.upper());
        f.lost(0, 1, 0, 1);
        due("lost", 236, f.upper());
        f.lost(0, 1, 0, 2);
        due("gained", -59, f.upper());
        f.whose(3, 0, 0, 0, 0);
        f.whose(0, 0, 9, 0, 0);
        f.owners(0, 0, 0, 0);
        due("no fraction told", -59, f.upper());
        f.whose(0, 0, 0, 0, 1);
        due("0", 0, f.upper());
        sentence(39, "Its lower number; 1 before.");
        due("before", 1, new MarbleLaw().lower());
        due("whose", 5, world().lower());
        f.lost(0, 1, 0, 0);
        due("lost", 5, f.lower());
        f.lost(0, 1, 0, 2);
        due("gained", 1, f.lower());
        f.lost(0, 1, 0, 1);
        due("lost", 5, f.lower());
        f.lost(3, 0, 0, 0);
        due("no fraction told", 5, f.lower());
        f.lost(0, 1, 0, 5);
        due("0 by 1", 1, f.lower());

        sentence(40, "0 ROWS, 1 TEXTS, 2 STUFFS, 3 MAKINGS, 4 JOINS (WRITE, BUILD, too), 5 LAWS, 6 layers of all HEAPS that are"
                + " there.");
        int[] counts = {2, 3, 3, 2, 1, 2, 2};
        for (int what = 0; what <= 6; what++) due("count " + what, counts[what], world().count(what));
        MarbleLaw all = fullOfStuffs(16);
        for (int r = 0; r < 6; r++) all.row(r, 0);
        for (int t = 0; t < 4; t++) all.text(t, 0);
        for (int l = 0; l < 4; l++) all.laws(l, 0);
        for (int m = 0; m < 12; m++) all.making(m % 3 == 0 ? JOIN : m % 3 == 1 ? WRITE : BUILD, 0, 1, 0, 0, 0, false);
        for (int i = 0; i < 80; i++) all.heap(i % 4, 0, 1);
        int[] most = {6, 4, 16, 12, 12, 4, 80};
        for (int what = 0; what <= 6; what++) due("the most of " + what, most[what], all.count(what));
        sentence(40, "BAD.");
        range("what", 0, 6, (y, v) -> y.count(v));

        findings();
        digests();
    }

    private static void refusedLeaveAsked() {
        MarbleLaw x = world();
        x.lay(0, 3, 1);
        x.at(0, -1);
        x.mean(1);
        x.about(3, 0);
        x.told(2, 0);
        x.undo(2, 2);
        x.stop(3, 0, 0, 0);
        x.left(4, 0);
        x.row(0, 3);
        x.put(0, 0, 1);
        x.debt(2, 3);
        x.mark(0, MIX);
        x.law(0);
        x.inside(0, 0);
        x.now(0, 0, 1);
        x.sly(0, 0, 0, 0);
        x.layer(0, 0);
        x.draw(0, 0, 1, 0);
        x.count(2);
        due("refused, and others", 7, x.asked());
    }

    private static void findings() {
        sentence(41, "The latest FINDING (0 before any).");
        due("before", 0, new MarbleLaw().finding());
        MarbleLaw x = new MarbleLaw();
        x.row(6, 0);
        x.stuff(0, 0, 0, 0);
        due("BAD is none", 0, x.finding());
        x.tear(0);
        due("NOTHING", NOTHING, x.finding());
        x.row(0, 0);
        x.at(0, 0);
        due("BEYOND", BEYOND, x.finding());
        x.stuff(0, 1, 1, 0);
        x.making(NOTE, 0, 0, 0, 0, 0, false);
        x.mark(0, FORM);
        due("UNLIKE", UNLIKE, x.finding());
        x.mean(0);
        due("NOUGHT", NOUGHT, x.finding());
        x.text(0, -1);
        due("SIZE", SIZE, x.finding());
        x.laws(0, write(x, 0, "F"));
        x.count(7);
        x.row(0, 1);
        due("stays", SIZE, x.finding());
        x.at(0, 1);
        due("the latest", BEYOND, x.finding());

        sentence(42, "How often a FINDING (1 .. 5) was answered.");
        int[] found = {1, 2, 1, 1, 1};
        for (int f = 1; f <= 5; f++) due("FINDING " + f, found[f - 1], x.findings(f));
        for (int f = 1; f <= 5; f++) due("none", 0, new MarbleLaw().findings(f));
        sentence(42, "BAD.");
        range("f", 1, 5, (y, v) -> y.findings(v));
    }

    private static long hashed(int... values) {
        long h = 17;
        for (int v : values) h = 31 * h + v;
        return h;
    }

    private static void digests() {
        sentence(43, "h = 17; then h = 31 h + v for each v: count() 0 to 6; of each STUFF about() 0 to 4; of each MAKING told() 0 to 6;"
                + " of each LAWS (-1: missing) their number; of each HEAP how many layers, each as layer(); of each ROW its size"
                + " (-1: missing) and places, of each TEXT likewise.");
        due("of a new one", hashed(0, 0, 0, 0, 0, 0, 0, -1, -1, -1, -1, 0, 0, 0, 0, -1, -1, -1, -1, -1, -1, -1, -1, -1, -1),
                new MarbleLaw().digest());
        MarbleLaw x = world();
        x.put(0, 1, 255);
        due("of a world", hashed(2, 3, 3, 2, 1, 2, 2, 1, 20, 10, 0, 0, 1, 30, 40, 1, 0, 2, 7, 7, 2, 5,
                MIX, 0, 1, 5, 9, 0, 0, JOIN, 2, 1, 4, 3, 2, 1, 11112, 22121, -1, -1, 2, 503, 204, 0, 0, 0,
                3, 7, 8, 9, 0, -1, -1, -1, -1, 4, 32, -1, 32, 32, 0, -1,
                11, 'J', 'p', 32, 'F', 'm', 32, 'W', 'm', 32, 'K', 'y'), x.digest());
        x.lay(0, 0, LOW);
        x.lay(0, 2, HIGH);
        x.tear(1);
        x.text(3, 0);
        due("of the least and most ints", hashed(1, 3, 3, 2, 1, 2, 2, 1, 20, 10, 0, 0, 1, 30, 40, 1, 0, 2, 7, 7, 2, 5,
                MIX, 0, 1, 5, 9, 0, 0, JOIN, 2, 1, 4, 3, 2, 1, 11112, 22121, -1, -1, 2, 503, 204, 0, 0, 0,
                3, LOW, 8, HIGH, -1, -1, -1, -1, -1, 4, 32, -1, 32, 32, 0, -1, 0), x.digest());
        MarbleLaw y = new MarbleLaw();
        y.row(5, 40);
        y.text(3, 40);
        y.draw(0, 0, 1, 0);
        int[] all = new int[7 + 4 + 4 + 6 + 40 + 4 + 40];
        int n = 0;
        for (int v : new int[] {1, 1, 0, 0, 0, 0, 0, -1, -1, -1, -1, 0, 0, 0, 0, -1, -1, -1, -1, -1, 40}) all[n++] = v;
        n += 40;
        for (int v : new int[] {-1, -1, -1, 40}) all[n++] = v;
        for (int i = 0; i < 40; i++) all[n++] = 32;
        due("of the longest", hashed(all), y.digest());
    }

    // ---- the sentences and the document

    /** Of each section of the document what no test has quoted must be nothing. */
    private static void everySentenceHasATest() throws IOException {
        Path doc = Path.of("../shared/DOC.md");
        if (!Files.isReadable(doc)) {
            System.out.println("the document is not here: its sentences are not looked after");
            return;
        }
        String text = Files.readString(doc);
        String[] rest = new String[45];
        for (String part : text.split("(?m)^## ")) {
            String words = " " + part.replaceAll("(?s)```\\w*", " ").replaceAll("\\s+", " ") + " ";
            if (words.startsWith(" Promise ")) {
                int number = Integer.parseInt(words.substring(9, words.indexOf(':')));
                rest[number + 1] = words.substring(words.indexOf("`: ") + 3);
            } else if (words.startsWith(" Terms ")) {
                rest[1] = words.substring(7).replaceAll("======== \\d ", "").replaceAll("Ahead of the calls .*", "");
            } else if (words.startsWith(" What it is ")) {
                rest[0] = words.replaceAll(".*======== ANSWERS\\. ", "");
            }
        }
        for (int i = 0; i < sentences.size(); i++) takeOut(rest, sections.get(i) + 1, sentences.get(i));
        for (int i = 0; i < rest.length; i++) {
            if (rest[i] == null || rest[i].isBlank()) continue;
            wrong++;
            System.out.println("without a test, in section " + (i - 1) + ":" + rest[i]);
        }
    }

    private static void takeOut(String[] rest, int section, String words) {
        int from = rest[section] == null ? -1 : rest[section].indexOf(words);
        if (from < 0) {
            wrong++;
            System.out.println("not in section " + (section - 1) + " of the document: " + words);
        } else {
            rest[section] = rest[section].substring(0, from) + rest[section].substring(from + words.length());
        }
    }
}
