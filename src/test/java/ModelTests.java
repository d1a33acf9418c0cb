import java.math.BigInteger;
import java.util.ArrayList;
import java.util.Arrays;
import java.util.List;
import java.util.Random;

/**
 * Long runs of calls on the class beside a second model of the document. The model keeps whole
 * histories, reckons with exact fractions, and tries out what the class decides by thought: a sly
 * one's making is really made, questions are decided by comparing all pairs of answers.
 */
public final class ModelTests {
    private static final int BAD = -1, FULL = -2, FINDING = -3, STATE = -4, NONE = -9;
    private static final int NOTHING = 1, BEYOND = 2, UNLIKE = 3, NOUGHT = 4, SIZE = 5;
    private static final int RUNS = 2500, CALLS = 200;

    record Fraction(BigInteger up, BigInteger low) {
        static final Fraction ZERO = of(0, 1), ONE = of(1, 1);

        static Fraction of(long up, long low) {
            return reduced(BigInteger.valueOf(up), BigInteger.valueOf(low));
        }

        static Fraction reduced(BigInteger up, BigInteger low) {
            BigInteger g = up.gcd(low);
            return new Fraction(up.divide(g), low.divide(g));
        }

        Fraction plus(Fraction o) {
            return reduced(up.multiply(o.low).add(o.up.multiply(low)), low.multiply(o.low));
        }

        Fraction times(long n) {
            return reduced(up.multiply(BigInteger.valueOf(n)), low);
        }

        Fraction by(long n) {
            return reduced(up, low.multiply(BigInteger.valueOf(n)));
        }

        boolean none() {
            return up.signum() == 0;
        }
    }

    record Stuff(int sort, int worth, int amount, int owner) {}

    record Making(int kind, int s, int v, int maker, int work, int knew, int parted) {
        boolean two() {
            return kind == 2 || kind == 3 || kind == 5;
        }
    }

    record Law(int f, int j, int m, int w, int k) {
        int number() {
            return f * 10000 + j * 1000 + m * 100 + w * 10 + k;
        }

        int wordsFrom(Law o) {
            return (f != o.f ? 1 : 0) + (j != o.j ? 1 : 0) + (m != o.m ? 1 : 0) + (w != o.w ? 1 : 0) + (k != o.k ? 1 : 0);
        }
    }

    /** How things stand behind some makings; never changed once it is told. */
    static final class State {
        int[] cameTo;
        int[] sort, worth, amount;
        Fraction[][] parts;
        boolean fine = false;

        State copy() {
            State c = new State();
            c.cameTo = cameTo.clone();
            c.sort = sort.clone();
            c.worth = worth.clone();
            c.amount = amount.clone();
            c.parts = parts.clone();
            c.fine = fine;
            return c;
        }

        int outermost(int s) {
            return cameTo[s] < 0 ? s : outermost(cameTo[s]);
        }

        Fraction part(int s, int person) {
            return parts[outermost(s)][person];
        }
    }

    static final class Model {
        final int[][] rows = new int[6][];
        final byte[][] texts = new byte[4][];
        final List<Stuff> stuffs = new ArrayList<>();
        final List<Integer> debts = new ArrayList<>();
        final List<Making> makings = new ArrayList<>();
        final Law[] laws = new Law[4];
        final List<List<int[]>> heaps = List.of(new ArrayList<>(), new ArrayList<>(), new ArrayList<>(), new ArrayList<>());
        int asked = 0, finding = 0;
        final int[] findings = new int[6];
        Fraction fraction = Fraction.ZERO;

        int find(int f) {
            finding = f;
            findings[f]++;
            return FINDING;
        }

        static boolean in(int v, int from, int to) {
            return v >= from && v <= to;
        }

        boolean isStuff(int s) {
            return in(s, 0, stuffs.size() - 1);
        }

        int row(int r, int n) {
            if (!in(r, 0, 5) || n > 40) return BAD;
            if (n < 0) return find(SIZE);
            rows[r] = new int[n];
            return n;
        }

        int lay(int r, int i, int v) {
            int a = at(r, i);
            if (a == 1) rows[r][i] = v;
            return a;
        }

        int at(int r, int i) {
            if (!in(r, 0, 5)) return BAD;
            if (rows[r] == null) return find(NOTHING);
            if (!in(i, 0, rows[r].length - 1)) return find(BEYOND);
            asked = rows[r][i];
            return 1;
        }

        int tear(int r) {
            if (!in(r, 0, 5)) return BAD;
            if (rows[r] == null) return find(NOTHING);
            rows[r] = null;
            return 1;
        }

        int copy(int r, int i, int to, int j, int n) {
            if (!in(r, 0, 5) || !in(to, 0, 5)) return BAD;
            if (n < 0) return find(SIZE);
            if (rows[r] == null || rows[to] == null) return find(NOTHING);
            if (i < 0 || j < 0 || (long) i + n > rows[r].length || (long) j + n > rows[to].length) return find(BEYOND);
            int[] taken = Arrays.copyOfRange(rows[r], i, i + n);
            for (int k = 0; k < n; k++) rows[to][j + k] = taken[k];
            return 1;
        }

        int mean(int r) {
            if (!in(r, 0, 5)) return BAD;
            if (rows[r] == null) return find(NOTHING);
            if (rows[r].length == 0) return find(NOUGHT);
            BigInteger sum = BigInteger.ZERO;
            for (int v : rows[r]) sum = sum.add(BigInteger.valueOf(v));
            asked = sum.divide(BigInteger.valueOf(rows[r].length)).intValueExact();
            return 1;
        }

        int text(int t, int n) {
            if (!in(t, 0, 3) || n > 40) return BAD;
            if (n < 0) return find(SIZE);
            texts[t] = " ".repeat(n).getBytes();
            return n;
        }

        int put(int t, int i, int v) {
            if (!in(t, 0, 3)) return BAD;
            if (texts[t] == null) return find(NOTHING);
            if (!in(i, 0, texts[t].length - 1)) return find(BEYOND);
            int was = texts[t][i];
            texts[t][i] = (byte) v;
            return was + 1000;
        }

        static boolean stuffOk(int sort, int worth, int amount, int owner) {
            return in(sort, 0, 9) && in(worth, 1, 99) && in(amount, 1, 99) && in(owner, 0, 5);
        }

        int stuff(int sort, int worth, int amount, int owner) {
            if (!stuffOk(sort, worth, amount, owner)) return BAD;
            if (stuffs.size() == 16) return FULL;
            stuffs.add(new Stuff(sort, worth, amount, owner));
            debts.add(0);
            return stuffs.size() - 1;
        }

        int stuffs(int r) {
            if (!in(r, 0, 5)) return BAD;
            int[] v = rows[r];
            if (v == null) return find(NOTHING);
            if (v.length % 4 != 0) return find(SIZE);
            if (stuffs.size() + v.length / 4 > 16) return FULL;
            for (int i = 0; i < v.length; i += 4) if (!stuffOk(v[i], v[i + 1], v[i + 2], v[i + 3])) return find(UNLIKE);
            for (int i = 0; i < v.length; i += 4) stuff(v[i], v[i + 1], v[i + 2], v[i + 3]);
            return v.length / 4;
        }

        int debt(int s, int v) {
            if (!isStuff(s) || !in(v, 0, 999)) return BAD;
            return debts.set(s, v);
        }

        int making(int kind, int s, int v, int maker, int work, int knew, boolean parted) {
            if (!in(kind, 0, 6) || !isStuff(s) || !in(maker, 0, 5) || !in(work, 0, 99) || !in(knew, 0, 5)) return BAD;
            if (kind == 1 && !in(v, 0, 9)) return BAD;
            if ((kind == 2 || kind == 3 || kind == 5) && (!isStuff(v) || v == s)) return BAD;
            if (kind == 6 && !in(v, 1, 99)) return BAD;
            if (makings.size() == 12) return FULL;
            if (kind == 3 && stuffs.get(s).sort != stuffs.get(v).sort) return find(UNLIKE);
            makings.add(new Making(kind, s, kind == 0 || kind == 4 ? 0 : v, maker, work, knew,
                    parted && (kind == 2 || kind == 5) ? 1 : 0));
            return makings.size() - 1;
        }

        int about(int s, int what) {
            if (!isStuff(s) || !in(what, 0, 4)) return BAD;
            Stuff k = stuffs.get(s);
            asked = new int[] {k.sort, k.worth, k.amount, k.owner, debts.get(s)}[what];
            return 1;
        }

        int[] numbers(Making k) {
            return new int[] {k.kind, k.s, k.v, k.maker, k.work, k.knew, k.parted};
        }

        int told(int m, int what) {
            if (!in(m, 0, makings.size() - 1) || !in(what, 0, 6)) return BAD;
            asked = numbers(makings.get(m))[what];
            return 1;
        }

        int mark(int m, int kind) {
            if (!in(m, 0, makings.size() - 1) || !in(kind, 1, 6)) return BAD;
            Making k = makings.get(m);
            if (kind == 2) {
                if (k.kind != 2 && k.kind != 4 && k.kind != 5) return find(UNLIKE);
                return k.kind != 4 && inside(k.s, m) != inside(k.v, m) ? 1 : 0;
            }
            if (k.kind != kind) return find(UNLIKE);
            return kind == 4 ? k.work : k.v;
        }

        /** {fault, law's number}: by pairs, cut from the text one after the other. */
        int[] read(byte[] t) {
            String s = new String(t, java.nio.charset.StandardCharsets.ISO_8859_1);
            String rest = s;
            int[] word = new int[5];
            while (true) {
                while (rest.startsWith(" ")) rest = rest.substring(1);
                int here = s.length() - rest.length();
                if (rest.isEmpty()) break;
                int k = "FJMWK".indexOf(rest.charAt(0));
                if (k < 0 || word[k] > 0) return new int[] {here, 0};
                if (rest.length() == 1) return new int[] {s.length(), 0};
                int c = new String[] {"smg", "cp", "aw", "cm", "yn"}[k].indexOf(rest.charAt(1));
                if (c < 0) return new int[] {here + 1, 0};
                word[k] = c + 1;
                rest = rest.substring(2);
            }
            int[] untold = {1, 1, 1, 1, 2};
            int number = 0;
            for (int k = 0; k < 5; k++) number = number * 10 + (word[k] == 0 ? untold[k] : word[k]);
            return new int[] {NONE, number};
        }

        int fault(int t) {
            if (!in(t, 0, 3)) return BAD;
            return texts[t] == null ? find(NOTHING) : read(texts[t])[0];
        }

        int laws(int l, int t) {
            if (!in(l, 0, 3) || !in(t, 0, 3)) return BAD;
            if (texts[t] == null) return find(NOTHING);
            int[] got = read(texts[t]);
            if (got[0] != NONE) return STATE;
            int n = got[1];
            laws[l] = new Law(n / 10000, n / 1000 % 10, n / 100 % 10, n / 10 % 10, n % 10);
            return n;
        }

        int law(int l) {
            if (!in(l, 0, 3)) return BAD;
            return laws[l] == null ? find(NOTHING) : laws[l].number();
        }

        State first() {
            State a = new State();
            int n = stuffs.size();
            a.cameTo = new int[n];
            Arrays.fill(a.cameTo, -1);
            a.sort = new int[n];
            a.worth = new int[n];
            a.amount = new int[n];
            a.parts = new Fraction[n][];
            for (int s = 0; s < n; s++) {
                a.sort[s] = stuffs.get(s).sort;
                a.worth[s] = stuffs.get(s).worth;
                a.amount[s] = stuffs.get(s).amount;
                a.parts[s] = all(stuffs.get(s).owner);
            }
            return a;
        }

        static Fraction[] all(int person) {
            Fraction[] p = new Fraction[6];
            Arrays.fill(p, Fraction.ZERO);
            p[person] = Fraction.ONE;
            return p;
        }

        static Fraction[] both(Fraction[] p, long x, Fraction[] q, long y) {
            Fraction[] r = new Fraction[6];
            for (int i = 0; i < 6; i++) r[i] = p[i].times(x).plus(q[i].times(y)).by(x + y);
            return r;
        }

        State behind(State a, Making k, Law law, int answers) {
            if (k.kind == 0) return a;
            State b = a.copy();
            int s = a.outermost(k.s);
            b.worth[s] += k.work;
            boolean knew = k.knew == 1 || k.knew > 1 && (answers & 1 << k.knew - 2) != 0;
            boolean refused = knew && law.k == 1;
            if (k.kind == 1) {
                b.sort[s] = k.v;
                boolean his = law.f == 2 || law.f == 3 && k.work > a.worth[s];
                if (his && !refused) b.parts[s] = all(k.maker);
            }
            if (k.kind == 4 && law.w == 2 && !refused) b.parts[s] = all(k.maker);
            if (k.kind == 6) b.amount[s] += k.v;
            if (k.two() && a.outermost(k.v) != s) {
                int t = a.outermost(k.v);
                b.cameTo[t] = s;
                b.worth[s] += a.worth[t];
                boolean byAmount = k.kind == 3 && law.m == 1;
                boolean byWorth = k.kind == 3 && law.m == 2 || k.kind == 2 && law.j == 2;
                if (k.kind == 3) b.amount[s] += a.amount[t];
                if (byAmount) b.parts[s] = both(a.parts[s], a.amount[s], a.parts[t], a.amount[t]);
                if (byWorth) b.parts[s] = both(a.parts[s], a.worth[s], a.parts[t], a.worth[t]);
            }
            BigInteger least = BigInteger.ONE;
            for (Fraction f : b.parts[s]) least = least.multiply(f.low).divide(least.gcd(f.low));
            if (least.compareTo(BigInteger.valueOf(10000)) > 0) b.fine = true;
            return b;
        }

        State behind(List<Making> done, Law law, int answers) {
            State a = first();
            for (Making k : done) a = behind(a, k, law, answers);
            return a;
        }

        static final Law PLAIN = new Law(1, 1, 1, 1, 2);

        State plain(int m) {
            return behind(makings.subList(0, m), PLAIN, 0);
        }

        int inside(int s, int m) {
            if (!isStuff(s) || !in(m, 0, makings.size())) return BAD;
            return plain(m).outermost(s);
        }

        int now(int s, int m, int what) {
            if (!isStuff(s) || !in(m, 0, makings.size()) || !in(what, 0, 3)) return BAD;
            State a = plain(m);
            int thing = a.outermost(s), riding = 0;
            for (int t = 0; t < stuffs.size(); t++) if (a.outermost(t) == thing) riding += debts.get(t);
            return new int[] {a.sort[thing], a.worth[thing], a.amount[thing], riding}[what];
        }

        boolean partsBad(int l, int s, int m, int answers, int person) {
            return !in(l, 0, 3) || !isStuff(s) || !in(m, 0, makings.size()) || !in(answers, 0, 15) || !in(person, 0, 5);
        }

        int whose(int l, int s, int m, int answers, int person) {
            if (partsBad(l, s, m, answers, person)) return BAD;
            if (laws[l] == null) return find(NOTHING);
            State a = behind(makings.subList(0, m), laws[l], answers);
            if (a.fine) return find(SIZE);
            fraction = a.part(s, person);
            return fraction.none() ? 0 : 1;
        }

        int owners(int l, int s, int m, int answers) {
            if (partsBad(l, s, m, answers, 0)) return BAD;
            if (laws[l] == null) return find(NOTHING);
            State a = behind(makings.subList(0, m), laws[l], answers);
            if (a.fine) return find(SIZE);
            int bits = 0;
            for (int p = 0; p < 6; p++) if (!a.part(s, p).none()) bits += 1 << p;
            return bits;
        }

        int changes(int l, int s, int answers, int person) {
            if (partsBad(l, s, 0, answers, person)) return BAD;
            if (laws[l] == null) return find(NOTHING);
            for (int m = 0; m < makings.size(); m++) {
                State a = behind(makings.subList(0, m), laws[l], answers);
                State b = behind(makings.subList(0, m + 1), laws[l], answers);
                if (b.fine) return find(SIZE);
                if (!a.part(s, person).equals(b.part(s, person))) return m;
            }
            return NONE;
        }

        int lost(int l, int m, int answers, int person) {
            if (!in(m, 0, makings.size() - 1) || partsBad(l, 0, m, answers, person)) return BAD;
            if (laws[l] == null) return find(NOTHING);
            Making k = makings.get(m);
            State a = behind(makings.subList(0, m), laws[l], answers);
            State b = behind(a, k, laws[l], answers);
            if (b.fine) return find(SIZE);
            int s = a.outermost(k.s);
            long w = a.worth[s];
            Fraction had = a.part(s, person).times(w);
            if (k.two() && a.outermost(k.v) != s) {
                had = had.plus(a.part(k.v, person).times(a.worth[a.outermost(k.v)]));
                w += a.worth[a.outermost(k.v)];
            }
            fraction = had.plus(b.part(s, person).times(-w));
            return fraction.none() ? 0 : fraction.up.signum() > 0 ? 1 : 2;
        }

        int beside(int l, int other, int answers) {
            if (!in(l, 0, 3) || !in(other, 0, 3) || !in(answers, 0, 15)) return BAD;
            if (laws[l] == null || laws[other] == null) return find(NOTHING);
            for (int m = 0; m < makings.size(); m++) {
                State a = behind(makings.subList(0, m + 1), laws[l], answers);
                State b = behind(makings.subList(0, m + 1), laws[other], answers);
                if (a.fine || b.fine) return find(SIZE);
                for (int p = 0; p < 6; p++) {
                    if (!a.part(makings.get(m).s, p).equals(b.part(makings.get(m).s, p))) return m;
                }
            }
            return NONE;
        }

        int undo(int made, int m) {
            if (!in(m, 0, makings.size()) || !in(made, 0, m - 1)) return BAD;
            Making k = makings.get(made);
            State a = plain(made), z = plain(m);
            if (k.parted == 0 || a.outermost(k.s) == a.outermost(k.v)) return 0;
            int thing = z.outermost(k.s);
            for (Making later : makings.subList(made + 1, m)) {
                if (later.kind == 0) continue;
                if (z.outermost(later.s) == thing || later.two() && z.outermost(later.v) == thing) return 0;
            }
            asked = a.worth[a.outermost(k.v)] - 1 - z.worth[thing] / 10;
            return 1;
        }

        /** By each of all ANSWERS whether he has something; null: too fine by one. */
        boolean[] having(int l, int s, int m, int person) {
            boolean[] h = new boolean[16];
            for (int a = 0; a < 16; a++) {
                State st = behind(makings.subList(0, m), laws[l], a);
                if (st.fine) return null;
                h[a] = !st.part(s, person).none();
            }
            return h;
        }

        int sure(int l, int s, int m, int person) {
            if (partsBad(l, s, m, 0, person)) return BAD;
            if (laws[l] == null) return find(NOTHING);
            boolean[] h = having(l, s, m, person);
            if (h == null) return find(SIZE);
            int n = 0;
            for (boolean b : h) n += b ? 1 : 0;
            return n == 16 ? 2 : n > 0 ? 1 : 0;
        }

        int hangs(int l, int s, int m, int person) {
            if (partsBad(l, s, m, 0, person)) return BAD;
            if (laws[l] == null) return find(NOTHING);
            boolean[] h = having(l, s, m, person);
            if (h == null) return find(SIZE);
            for (int n = 0; n <= 4; n++) {
                for (int q = 0; q < 16; q++) {
                    boolean ok = Integer.bitCount(q) == n;
                    for (int a = 0; a < 16; a++) for (int b = 0; b < 16; b++) if ((a & q) == (b & q) && h[a] != h[b]) ok = false;
                    if (ok) return q;
                }
            }
            return 15;
        }

        boolean hasAll(State a, int s, int person) {
            return a.part(s, person).equals(Fraction.ONE);
        }

        /** Makes each making really, behind all. */
        int slyBy(State a, Law law, int s, int person, int work) {
            if (hasAll(a, s, person)) return 0;
            if (hasAll(behind(a, new Making(1, s, 0, person, work, 1, 0), law, 0), s, person)) return 1;
            if (hasAll(behind(a, new Making(4, s, 0, person, work, 1, 0), law, 0), s, person)) return 2;
            for (int u = 0; u < stuffs.size(); u++) {
                if (a.outermost(u) == a.outermost(s) || !hasAll(a, u, person)) continue;
                State b = behind(a, new Making(2, u, s, person, work, 1, 0), law, 0);
                if (!b.fine && hasAll(b, s, person)) return 3;
            }
            return NONE;
        }

        int sly(int l, int s, int person, int work) {
            if (partsBad(l, s, 0, 0, person) || !in(work, 0, 99)) return BAD;
            if (laws[l] == null) return find(NOTHING);
            State a = behind(makings, laws[l], 0);
            return a.fine ? find(SIZE) : slyBy(a, laws[l], s, person, work);
        }

        int stop(int l, int s, int person, int work) {
            if (partsBad(l, s, 0, 0, person) || !in(work, 0, 99)) return BAD;
            if (laws[l] == null) return find(NOTHING);
            if (behind(makings, laws[l], 0).fine) return find(SIZE);
            Law best = null;
            for (int f = 1; f <= 3; f++) for (int j = 1; j <= 2; j++) for (int m = 1; m <= 2; m++)
                for (int w = 1; w <= 2; w++) for (int k = 1; k <= 2; k++) {
                    Law law = new Law(f, j, m, w, k);
                    if (best != null && best.wordsFrom(laws[l]) <= law.wordsFrom(laws[l])) continue;
                    State a = behind(makings, law, 0);
                    if (!a.fine && slyBy(a, law, s, person, work) == NONE) best = law;
                }
            if (best == null) return NONE;
            asked = best.wordsFrom(laws[l]);
            return best.number();
        }

        int inTime(int l, int s, int person) {
            if (partsBad(l, s, 0, 0, person)) return BAD;
            if (laws[l] == null) return find(NOTHING);
            State a = behind(makings, laws[l], 0);
            if (a.fine) return find(SIZE);
            int last = NONE;
            for (int m = 0; m < makings.size(); m++) {
                List<Making> others = new ArrayList<>(makings);
                others.remove(m);
                State b = behind(others, laws[l], 0);
                if (!b.fine && !b.part(s, person).none()) last = m;
            }
            return a.part(s, person).none() ? last : NONE;
        }

        int heap(int h, int person, int amount) {
            if (!in(h, 0, 3) || !in(person, 0, 5) || !in(amount, 1, 99)) return BAD;
            if (heaps.get(h).size() == 20) return FULL;
            heaps.get(h).add(new int[] {person, amount});
            return heaps.get(h).size();
        }

        int total(int h) {
            return heaps.get(h).stream().mapToInt(y -> y[1]).sum();
        }

        /** One by one, but for the cuts of rule 1. */
        int draw(int h, int person, int n, int rule) {
            if (!in(h, 0, 3) || !in(person, 0, 5) || !in(n, 1, 999) || !in(rule, 0, 2)) return BAD;
            List<int[]> layers = heaps.get(h);
            int all = total(h), due = n;
            if (all < n) return find(BEYOND);
            if (rule == 1) {
                for (int[] y : layers) {
                    int cut = y[1] * n / all;
                    y[1] -= cut;
                    due -= cut;
                }
                while (due > 0) {
                    for (int[] y : layers) if (due > 0 && y[1] > 0) { y[1]--; due--; }
                }
            }
            for (; due > 0; due--) {
                int[] from = null;
                if (rule == 0) for (int[] y : layers) if (from == null && y[1] > 0) from = y;
                if (rule == 2) for (int[] y : layers) if (y[0] != person && y[1] > 0) from = y;
                if (rule == 2 && from == null) for (int[] y : layers) if (y[1] > 0) from = y;
                from[1]--;
            }
            layers.removeIf(y -> y[1] == 0);
            return layers.size();
        }

        int left(int h, int person) {
            if (!in(h, 0, 3) || !in(person, 0, 5)) return BAD;
            asked = total(h);
            return heaps.get(h).stream().filter(y -> y[0] == person).mapToInt(y -> y[1]).sum();
        }

        int layer(int h, int i) {
            if (!in(h, 0, 3)) return BAD;
            if (!in(i, 0, heaps.get(h).size() - 1)) return find(BEYOND);
            int[] y = heaps.get(h).get(i);
            return 10 * y[1] + y[0];
        }

        int count(int what) {
            if (!in(what, 0, 6)) return BAD;
            int n = 0;
            if (what == 0) for (int[] r : rows) n += r == null ? 0 : 1;
            if (what == 1) for (byte[] t : texts) n += t == null ? 0 : 1;
            if (what == 2) n = stuffs.size();
            if (what == 3) n = makings.size();
            if (what == 4) for (Making k : makings) n += k.kind == 2 || k.kind == 4 || k.kind == 5 ? 1 : 0;
            if (what == 5) for (Law l : laws) n += l == null ? 0 : 1;
            if (what == 6) for (List<int[]> h : heaps) n += h.size();
            return n;
        }

        int findings(int f) {
            return in(f, 1, 5) ? findings[f] : BAD;
        }

        long digest() {
            List<Integer> vs = new ArrayList<>();
            for (int w = 0; w < 7; w++) vs.add(count(w));
            for (int s = 0; s < stuffs.size(); s++) {
                Stuff k = stuffs.get(s);
                vs.addAll(List.of(k.sort, k.worth, k.amount, k.owner, debts.get(s)));
            }
            for (Making k : makings) for (int v : numbers(k)) vs.add(v);
            for (Law l : laws) vs.add(l == null ? -1 : l.number());
            for (List<int[]> h : heaps) {
                vs.add(h.size());
                for (int[] y : h) vs.add(y[1] * 10 + y[0]);
            }
            for (int[] r : rows) {
                vs.add(r == null ? -1 : r.length);
                if (r != null) for (int v : r) vs.add(v);
            }
            for (byte[] t : texts) {
                vs.add(t == null ? -1 : t.length);
                if (t != null) for (byte v : t) vs.add((int) v);
            }
            long h = 17;
            for (int v : vs) h = h * 31 + v;
            return h;
        }
    }

    private static Random random;
    private static MarbleLaw x;
    private static Model y;
    private static final StringBuilder story = new StringBuilder();
    private static final int[][] answered = new int[45][4];
    private static boolean failed = false;

    private static void same(String call, int number, long want, long got) {
        story.append(call).append(" = ").append(got).append('\n');
        answered[number][want >= 0 ? 0 : want == FINDING ? 1 : want == NONE ? 2 : 3]++;
        if (want != got && !failed) {
            failed = true;
            System.out.println(story + "answered " + got + ", due is " + want);
        }
    }

    /** Mostly one that is there; now and then one below, one above, or anything. */
    private static int pick(int from, int to) {
        int way = random.nextInt(90);
        if (way == 0) return from - 1;
        if (way == 1) return to + 1;
        if (way == 2) return random.nextInt();
        return to < from ? from : from + random.nextInt(to - from + 1);
    }

    private static int stuffNumber() {
        return pick(0, y.stuffs.size() - 1);
    }

    private static int storyNumber() {
        return random.nextInt(3) > 0 ? y.makings.size() : pick(0, y.makings.size());
    }

    private static int placeIn(int size) {
        return pick(0, Math.max(0, size - 1));
    }

    private static void legislate() {
        String[] words = {"Fs", "Fm", "Fg", "Jc", "Jp", "Ma", "Mw", "Wc", "Wm", "Ky", "Kn", " ", "  ", "J", "x"};
        StringBuilder s = new StringBuilder();
        for (int n = random.nextInt(5); n >= 0; n--) {
            String w = words[random.nextInt(random.nextInt(20) == 0 ? words.length : 13)];
            if (w.isBlank() || random.nextInt(20) == 0 || s.indexOf(w.substring(0, 1)) < 0) s.append(w);
        }
        if (s.length() > 40) s.setLength(40);
        int t = random.nextInt(4), l = random.nextInt(4);
        same("text", 8, y.text(t, s.length()), x.text(t, s.length()));
        for (int i = 0; i < s.length(); i++) same("put " + s.charAt(i), 9, y.put(t, i, s.charAt(i)), x.put(t, i, s.charAt(i)));
        same("fault(" + t + ") of '" + s + "'", 17, y.fault(t), x.fault(t));
        same("laws(" + l + ", " + t + ") by '" + s + "'", 18, y.laws(l, t), x.laws(l, t));
    }

    private static void tellStory() {
        int sorts = 1 + random.nextInt(3), most = random.nextBoolean() ? 99 : 6;
        int stuffs = random.nextInt(8) == 0 ? 16 : 1 + random.nextInt(7), makings = random.nextInt(13);
        for (int i = 0; i < stuffs; i++) {
            int so = random.nextInt(sorts), w = 1 + random.nextInt(most), a = 1 + random.nextInt(most), o = random.nextInt(6);
            same("stuff(" + so + ", " + w + ", " + a + ", " + o + ")", 10, y.stuff(so, w, a, o), x.stuff(so, w, a, o));
        }
        for (int i = 0; i < makings; i++) oneMaking();
        for (int i = 0; i < 3; i++) legislate();
        for (int r = 0; r < 2; r++) fillRow(r);
        for (int i = random.nextInt(24); i > 0; i--) {
            int o = random.nextInt(6), a = 1 + random.nextInt(most);
            same("heap(0, " + o + ", " + a + ")", 33, y.heap(0, o, a), x.heap(0, o, a));
        }
    }

    /** A ROW of fours by which STUFFS can be told, or nearly. */
    private static void fillRow(int r) {
        int n = 4 * random.nextInt(4) + (random.nextInt(8) == 0 ? 1 : 0);
        same("row(" + r + ", " + n + ")", 2, y.row(r, n), x.row(r, n));
        for (int i = 0; i < n; i++) {
            int place = i, v = random.nextInt(40) == 0 ? pick(0, 99) : 1 + random.nextInt(5);
            same("lay(" + r + ", " + i + ", " + v + ")", 3, y.lay(r, place, v), x.lay(r, place, v));
        }
    }

    private static void oneMaking() {
        int k = pick(0, 6), s = stuffNumber(), v = k == 1 ? pick(0, 9) : k == 6 ? pick(1, 99) : stuffNumber();
        int maker = pick(0, 5), work = pick(0, random.nextBoolean() ? 99 : 9), knew = pick(0, 5);
        boolean parted = random.nextBoolean();
        same("making(" + k + ", " + s + ", " + v + ", " + maker + ", " + work + ", " + knew + ", " + parted + ")", 13,
                y.making(k, s, v, maker, work, knew, parted), x.making(k, s, v, maker, work, knew, parted));
    }

    private static void oneCall() {
        int few = random.nextBoolean() ? 1 : 5, r = pick(0, few), q = pick(0, few), s = stuffNumber(), m = storyNumber(), l = pick(0, 3), p = pick(0, 5);
        int a = random.nextInt(3) == 0 ? 0 : pick(0, 15), w = pick(0, 99), t = pick(0, 3), h = random.nextBoolean() ? 0 : pick(0, 3);
        int v = random.nextInt(3) == 0 ? random.nextInt() : random.nextInt(12) - 1, made = pick(0, y.makings.size() - 1);
        int i = placeIn(6), j = placeIn(6), n = pick(0, random.nextInt(4) == 0 ? 40 : 6), what = pick(0, 6);
        int o = pick(0, 3), rule = pick(0, 2), drawn = pick(1, random.nextInt(8) == 0 ? 999 : 30), amount = pick(1, 99), b = pick(0, 255);
        switch (2 + random.nextInt(42)) {
            case 2 -> { if (random.nextInt(4) == 0) same("row(" + r + ", " + n + ")", 2, y.row(r, n), x.row(r, n)); }
            case 3 -> same("lay(" + r + ", " + i + ", " + v + ")", 3, y.lay(r, i, v), x.lay(r, i, v));
            case 4 -> same("at(" + r + ", " + i + ")", 4, y.at(r, i), x.at(r, i));
            case 5 -> { if (random.nextInt(12) == 0) same("tear(" + r + ")", 5, y.tear(r), x.tear(r)); }
            case 6 -> same("copy(" + r + ", " + i + ", " + q + ", " + j + ", " + n + ")", 6, y.copy(r, i, q, j, n), x.copy(r, i, q, j, n));
            case 7 -> same("mean(" + r + ")", 7, y.mean(r), x.mean(r));
            case 8 -> { if (random.nextInt(4) == 0) same("text(" + t + ", " + n + ")", 8, y.text(t, n), x.text(t, n)); }
            case 9 -> same("put(" + t + ", " + i + ", " + b + ")", 9, y.put(t, i, b), x.put(t, i, b));
            case 10 -> { if (random.nextInt(8) == 0) same("stuff(" + i + ", " + w + ", " + amount + ", " + p + ")", 10, y.stuff(i, w, amount, p), x.stuff(i, w, amount, p)); }
            case 11 -> { if (random.nextInt(8) == 0) same("stuffs(" + r + ")", 11, y.stuffs(r), x.stuffs(r)); }
            case 12 -> same("debt(" + s + ", " + 9 * w + ")", 12, y.debt(s, 9 * w), x.debt(s, 9 * w));
            case 13 -> { if (random.nextInt(8) == 0) oneMaking(); }
            case 14 -> same("about(" + s + ", " + what + ")", 14, y.about(s, what), x.about(s, what));
            case 15 -> same("told(" + made + ", " + what + ")", 15, y.told(made, what), x.told(made, what));
            case 16 -> same("mark(" + made + ", " + what + ")", 16, y.mark(made, what), x.mark(made, what));
            case 17 -> same("fault(" + t + ")", 17, y.fault(t), x.fault(t));
            case 18 -> legislate();
            case 19 -> same("law(" + l + ")", 19, y.law(l), x.law(l));
            case 20 -> same("inside(" + s + ", " + m + ")", 20, y.inside(s, m), x.inside(s, m));
            case 21 -> same("now(" + s + ", " + m + ", " + t + ")", 21, y.now(s, m, t), x.now(s, m, t));
            case 22 -> same("whose(" + l + ", " + s + ", " + m + ", " + a + ", " + p + ")", 22, y.whose(l, s, m, a, p), x.whose(l, s, m, a, p));
            case 23 -> same("owners(" + l + ", " + s + ", " + m + ", " + a + ")", 23, y.owners(l, s, m, a), x.owners(l, s, m, a));
            case 24 -> same("changes(" + l + ", " + s + ", " + a + ", " + p + ")", 24, y.changes(l, s, a, p), x.changes(l, s, a, p));
            case 25 -> same("lost(" + l + ", " + made + ", " + a + ", " + p + ")", 25, y.lost(l, made, a, p), x.lost(l, made, a, p));
            case 26 -> same("beside(" + l + ", " + o + ", " + a + ")", 26, y.beside(l, o, a), x.beside(l, o, a));
            case 27 -> same("undo(" + made + ", " + m + ")", 27, y.undo(made, m), x.undo(made, m));
            case 28 -> same("sure(" + l + ", " + s + ", " + m + ", " + p + ")", 28, y.sure(l, s, m, p), x.sure(l, s, m, p));
            case 29 -> same("hangs(" + l + ", " + s + ", " + m + ", " + p + ")", 29, y.hangs(l, s, m, p), x.hangs(l, s, m, p));
            case 30 -> same("sly(" + l + ", " + s + ", " + p + ", " + w + ")", 30, y.sly(l, s, p, w), x.sly(l, s, p, w));
            case 31 -> same("stop(" + l + ", " + s + ", " + p + ", " + w + ")", 31, y.stop(l, s, p, w), x.stop(l, s, p, w));
            case 32 -> same("inTime(" + l + ", " + s + ", " + p + ")", 32, y.inTime(l, s, p), x.inTime(l, s, p));
            case 33 -> same("heap(" + h + ", " + p + ", " + amount + ")", 33, y.heap(h, p, amount), x.heap(h, p, amount));
            case 34 -> same("draw(" + h + ", " + p + ", " + drawn + ", " + rule + ")", 34, y.draw(h, p, drawn, rule), x.draw(h, p, drawn, rule));
            case 35 -> same("left(" + h + ", " + p + ")", 35, y.left(h, p), x.left(h, p));
            case 36 -> same("layer(" + h + ", " + i + ")", 36, y.layer(h, i), x.layer(h, i));
            case 40 -> same("count(" + what + ")", 40, y.count(what), x.count(what));
            case 42 -> same("findings(" + what + ")", 42, y.findings(what), x.findings(what));
            case 43 -> same("digest()", 43, y.digest(), x.digest());
            default -> { }
        }
        same("asked()", 37, y.asked, x.asked());
        same("upper()", 38, y.fraction.up.longValueExact(), x.upper());
        same("lower()", 39, y.fraction.low.longValueExact(), x.lower());
        same("finding()", 41, y.finding, x.finding());
    }

    public static void main(String[] args) {
        int runs = args.length > 0 ? Integer.parseInt(args[0]) : RUNS;
        for (int run = 0; run < runs && !failed; run++) {
            random = new Random(run);
            x = new MarbleLaw();
            y = new Model();
            story.setLength(0);
            story.append("run ").append(run).append('\n');
            if (run % 5 != 0) tellStory();
            for (int c = 0; c < CALLS && !failed; c++) oneCall();
            for (int f = 1; f <= 5; f++) same("findings(" + f + ")", 42, y.findings(f), x.findings(f));
            same("digest()", 43, y.digest(), x.digest());
        }
        if (args.length > 1) {
            for (int n = 2; n <= 43; n++) System.out.println(n + ": told, finding, none, refused " + Arrays.toString(answered[n]));
        }
        System.out.println(failed ? "the class and the model part" : runs + " runs are as the model tells");
        if (failed) System.exit(1);
    }
}
