import java.util.ArrayList;
import java.util.List;

/**
 * The document once more, written apart from the class and as plainly as can be: kinds as classes, partings
 * and queues by trying all. Tests hold the class against it.
 */
final class SlowShop {
    static class Arm {
        int number, a, side, size, shade, wear, doll = -1, at = -1;
        SlowShop shop;

        int kind() { return 0; }
        int seenShade() { return shade; }
        int seenWear() { return wear; }
        boolean ofSide(int s) { return side == s; }
        int reach() { return 1; }
        int says(int kind) {
            return switch (kind) {
                case 0 -> size;
                case 1, 3, 6 -> seenShade();
                case 2, 5 -> seenWear();
                default -> side;
            };
        }
        int ran(int body) { shop.trace.add(body); return 0; }
        int bends(int x) { ran(10); return x + number; }
        int waves(int x) { ran(11); return bends(x) * 2; }
        int drops(int x) { ran(12); int w = waves(x); return w ^ bends(x - a); }
        Arm like() {
            Arm b = make(kind());
            b.number = number; b.a = a; b.side = side; b.size = size; b.shade = shade; b.wear = wear;
            b.doll = doll; b.at = at; b.shop = shop;
            return b;
        }
    }

    static class Stained extends Arm {
        int kind() { return 1; }
        int seenShade() { return Math.min(9, shade + a); }
        int bends(int x) { ran(20); return super.bends(x) + a; }
    }

    static class Cast extends Arm {
        int kind() { return 2; }
        int seenWear() { return 0; }
        int waves(int x) { ran(30); return super.waves(x) * 3; }
    }

    static class Robbed extends Stained {
        int kind() { return 3; }
        int seenWear() { return Math.min(9, super.seenWear() + 1); }
        int bends(int x) { ran(40); return super.bends(x + 1); }
    }

    static class Doubled extends Arm {
        int kind() { return 4; }
        boolean ofSide(int s) { return true; }
        int drops(int x) { ran(50); return -super.drops(x); }
        int bends(int x) { ran(51); return super.bends(x) - number; }
    }

    static class Old extends Cast {
        int kind() { return 5; }
        int seenWear() { return 9 - a; }
        int drops(int x) { ran(60); return super.drops(x) ^ 5; }
    }

    static class Glued extends Robbed {
        int kind() { return 6; }
        int seenWear() { return Math.min(9, super.seenWear() + a); }
        int reach() { return 2; }
        int bends(int x) { ran(70); return super.bends(x) * 2; }
        int waves(int x) { ran(71); return super.waves(x - a); }
    }

    static Arm make(int kind) {
        return switch (kind) {
            case 0 -> new Arm();
            case 1 -> new Stained();
            case 2 -> new Cast();
            case 3 -> new Robbed();
            case 4 -> new Doubled();
            case 5 -> new Old();
            default -> new Glued();
        };
    }

    static boolean isOf(Arm arm, int kind) {
        return switch (kind) {
            case 0 -> true;
            case 1 -> arm instanceof Stained;
            case 2 -> arm instanceof Cast;
            case 3 -> arm instanceof Robbed;
            case 4 -> arm instanceof Doubled;
            case 5 -> arm instanceof Old;
            default -> arm instanceof Glued;
        };
    }

    static final class Doll {
        int size, shade, wear, wish, minutes, tears, bears, days;
        Arm[] has = new Arm[2];
    }

    static final class Row {
        int sort;
        long[] e;
    }

    List<Arm> arms = new ArrayList<>();
    List<Doll> dolls = new ArrayList<>();
    int mended, spent, today, seed = 1;
    Object[] shelves = new Object[8]; // null, Row, or the Integer of an arm
    int[] refusals = new int[8];
    int fault = -1;
    List<Integer> trace = new ArrayList<>();
    SlowShop image;

    // ---- helpers ----

    private int no(int r) { refusals[-r]++; return r; }
    private int noApart(int r) { refusals[-r]++; return r - 10; }
    private boolean shelf(int s) { return s >= 0 && s < 8; }
    private boolean isArm(int n) { return n >= 0 && n < arms.size(); }
    private boolean isDoll(int n) { return n >= 0 && n < dolls.size(); }
    private static boolean in(int v, int lo, int hi) { return lo <= v && v <= hi; }
    private int rowBar(int s) {
        if (!shelf(s)) return -1;
        if (shelves[s] instanceof Integer) return -2;
        if (shelves[s] == null) return -3;
        return 0;
    }
    private Row rowOf(int s) { return (Row) shelves[s]; }

    /** A copy of arms, dolls and counts (not of shelves and the rest). */
    SlowShop twin() {
        SlowShop t = new SlowShop();
        for (Arm a : arms) {
            Arm b = a.like();
            b.shop = t;
            t.arms.add(b);
        }
        for (Doll d : dolls) {
            Doll e = new Doll();
            e.size = d.size; e.shade = d.shade; e.wear = d.wear; e.wish = d.wish;
            e.minutes = d.minutes; e.tears = d.tears; e.bears = d.bears; e.days = d.days;
            for (int s = 0; s < 2; s++) if (d.has[s] != null) e.has[s] = t.arms.get(d.has[s].number);
            t.dolls.add(e);
        }
        t.mended = mended; t.spent = spent; t.today = today; t.seed = seed;
        return t;
    }

    void become(SlowShop t) {
        SlowShop u = t.twin();
        arms = u.arms;
        for (Arm a : arms) a.shop = this;
        dolls = u.dolls;
        mended = u.mended; spent = u.spent; today = u.today; seed = u.seed;
    }

    static boolean fit(Arm a, Doll d, int side) { return a.ofSide(side) && Math.abs(a.size - d.size) <= a.reach(); }

    static int unlikeOf(Arm a, Doll d) {
        int u = 2 * Math.abs(a.size - d.size);
        if (d.wish == 0) u += Math.abs(a.seenShade() - d.shade) + Math.abs(a.seenWear() - d.wear);
        if (d.wish == 1) u += Math.abs(a.seenShade() - d.shade) + a.seenWear();
        return u;
    }

    void come(Arm a, int doll, int side) { a.doll = doll; a.at = side; dolls.get(doll).has[side] = a; }
    void leave(Arm a) { dolls.get(a.doll).has[a.at] = null; a.doll = -1; a.at = -1; }
    boolean possible(Arm a, int doll, int side) {
        return a.doll < 0 && dolls.get(doll).has[side] == null && fit(a, dolls.get(doll), side);
    }
    void doMend(Arm a, int doll, int side) { come(a, doll, side); spent += dolls.get(doll).minutes; mended++; }
    boolean her(int d) {
        int u = 0;
        for (Arm a : dolls.get(d).has) if (a != null) u += unlikeOf(a, dolls.get(d));
        return u <= dolls.get(d).bears;
    }
    int bothCount() {
        int n = 0;
        for (Doll d : dolls) if (d.has[0] != null && d.has[1] != null) n++;
        return n;
    }
    int allOn() {
        int u = 0;
        for (Doll d : dolls) for (Arm a : d.has) if (a != null) u += unlikeOf(a, d);
        return u;
    }

    // ---- shelves ----

    int row(int s, int sort, int n) {
        if (!shelf(s)) return no(-1);
        if (n < 0) return no(-4);
        if (sort < 0 || sort > 3) return no(-6);
        if (n > 160) return no(-7);
        Row r = new Row();
        r.sort = sort;
        r.e = new long[n];
        shelves[s] = r;
        return 1;
    }

    int set(int s, int i, long v) {
        if (rowBar(s) != 0) return no(rowBar(s));
        Row r = rowOf(s);
        if (i < 0 || i >= r.e.length) return no(-5);
        r.e[i] = r.sort == 0 ? (byte) v : r.sort == 1 ? (short) v : r.sort == 2 ? (int) v : v;
        return 1;
    }

    int copy(int p, int q, int i, int j, int n) {
        if (!shelf(p) || !shelf(q)) return no(-1);
        Object f = shelves[p], t = shelves[q];
        if (f instanceof Integer || t instanceof Integer) return no(-2);
        if (f != null && t != null && ((Row) f).sort != ((Row) t).sort) return no(-2);
        if (f == null || t == null) return no(-3);
        if (n < 0) return no(-4);
        if (i < 0 || j < 0 || (long) i + n > ((Row) f).e.length || (long) j + n > ((Row) t).e.length) return no(-5);
        long[] was = ((Row) f).e.clone();
        for (int k = 0; k < n; k++) ((Row) t).e[j + k] = was[i + k];
        return 1;
    }

    long element(int s, int i) {
        if (!shelf(s) || !(shelves[s] instanceof Row r) || i < 0 || i >= r.e.length) return 0;
        return r.e[i];
    }

    int show(int s, int arm) {
        if (!shelf(s) || arm != -1 && !isArm(arm)) return no(-1);
        shelves[s] = arm == -1 ? null : (Integer) arm;
        return arm == -1 ? 0 : 1;
    }

    int holds(int s) {
        if (!shelf(s) || shelves[s] == null) return -1;
        return shelves[s] instanceof Row r ? 100 + r.sort : (Integer) shelves[s];
    }

    int says(int s, int kind) {
        if (!shelf(s) || kind < 0 || kind > 6) return no(-1);
        if (shelves[s] instanceof Row) return no(-2);
        if (shelves[s] == null) return no(-3);
        Arm a = arms.get((Integer) shelves[s]);
        return isOf(a, kind) ? a.says(kind) : no(-2);
    }

    // ---- arms and dolls ----

    int arm(int kind, int a, int side, int size, int shade, int wear) {
        if (!in(kind, 0, 6)) return no(-1);
        if (!in(a, 0, 9) || !in(side, 0, 1) || !in(size, 0, 9) || !in(shade, 0, 9) || !in(wear, 0, 9)) return no(-6);
        if (arms.size() == 8) return no(-7);
        return plainArm(kind, a, side, size, shade, wear);
    }

    int plainArm(int kind, int a, int side, int size, int shade, int wear) {
        Arm b = make(kind);
        b.number = arms.size(); b.a = a; b.side = side; b.size = size; b.shade = shade; b.wear = wear; b.shop = this;
        arms.add(b);
        return b.number;
    }

    int doll(int size, int shade, int wear, int wish, int minutes, int tears, int bears) {
        if (!in(size, 0, 9) || !in(shade, 0, 9) || !in(wear, 0, 9) || !in(wish, 0, 2) || !in(minutes, 1, 99)
                || !in(tears, 0, 9) || !in(bears, 0, 40)) return no(-6);
        if (dolls.size() == 5) return no(-7);
        return plainDoll(size, shade, wear, wish, minutes, tears, bears);
    }

    int plainDoll(int size, int shade, int wear, int wish, int minutes, int tears, int bears) {
        Doll d = new Doll();
        d.size = size; d.shade = shade; d.wear = wear; d.wish = wish; d.minutes = minutes; d.tears = tears; d.bears = bears;
        dolls.add(d);
        return dolls.size() - 1;
    }

    int dye(int arm, int what, int v) {
        if (!isArm(arm)) return no(-1);
        if (!in(what, 0, 1) || !in(v, 0, 9)) return no(-6);
        Arm a = arms.get(arm);
        int was = what == 0 ? a.shade : a.wear;
        if (what == 0) a.shade = v; else a.wear = v;
        return was;
    }

    int tell(int doll, int what, int v) {
        if (!isDoll(doll)) return no(-1);
        int[] most = {2, 9, 40, 99};
        if (!in(what, 0, 3) || !in(v, 0, most[what])) return no(-6);
        Doll d = dolls.get(doll);
        int was;
        if (what == 0) { was = d.wish; d.wish = v; }
        else if (what == 1) { was = d.tears; d.tears = v; }
        else if (what == 2) { was = d.bears; d.bears = v; }
        else { was = d.days; d.days = v; }
        return was;
    }

    int armOf(int arm, int what) {
        if (!isArm(arm) || !in(what, 0, 8)) return no(-5);
        Arm a = arms.get(arm);
        int[] t = {a.kind(), a.a, a.side, a.size, a.shade, a.wear, a.seenShade(), a.seenWear(), a.doll < 0 ? 99 : 10 * a.doll + a.at};
        return t[what];
    }

    int dollOf(int doll, int what) {
        if (!isDoll(doll) || !in(what, 0, 8)) return no(-5);
        Doll d = dolls.get(doll);
        int[] t = {d.size, d.shade, d.wear, d.wish, d.minutes, d.tears, d.bears, d.days, her(doll) ? 1 : 0};
        return t[what];
    }

    int on(int doll, int side) {
        if (!isDoll(doll)) return noApart(-1);
        if (!in(side, 0, 1)) return noApart(-6);
        Arm a = dolls.get(doll).has[side];
        return a == null ? -1 : a.number;
    }

    // ---- a shop from a text ----

    int shop(int s) {
        if (rowBar(s) != 0) return no(rowBar(s));
        int[] letters = new int[rowOf(s).e.length];
        for (int i = 0; i < letters.length; i++) letters[i] = (int) rowOf(s).e[i];
        SlowShop t = twin();
        int items = 0;
        int p = 0;
        while (true) {
            int q = t.item(letters, p);
            if (q < 0) {
                fault = -1 - q;
                return no(-6);
            }
            items++;
            p = q;
            if (p == letters.length) break;
            if (letters[p] != ';') {
                fault = p;
                return no(-6);
            }
            p++;
        }
        fault = -1;
        become(t);
        return items;
    }

    private static final String[] WORDS = {"arm", "doll", "on", "off", "lies"};

    /** The place behind the item that begins at p, or -1 - the fault. */
    private int item(int[] t, int p) {
        int len = 0;
        String word = null;
        int reach = 0;
        for (String w : WORDS) {
            int k = 0;
            while (k < w.length() && p + k < t.length && t[p + k] == w.charAt(k)) k++;
            reach = Math.max(reach, k);
            if (k == w.length()) word = w;
        }
        if (word == null) return -1 - (p + reach);
        len = word.length();
        if (word.equals("arm") && arms.size() == 8 || word.equals("doll") && dolls.size() == 5) return -1 - p;
        int many = word.equals("arm") ? 6 : word.equals("doll") ? 7 : word.equals("off") ? 1 : 2;
        int[] v = new int[many];
        int at = p + len;
        for (int i = 0; i < many; i++) {
            if (at >= t.length || t[at] != ' ') return -1 - at;
            at++;
            if (at >= t.length || t[at] < '0' || t[at] > '9') return -1 - at;
            int first = at;
            v[i] = t[at++] - '0';
            if (at < t.length && t[at] >= '0' && t[at] <= '9') v[i] = 10 * v[i] + t[at++] - '0';
            if (!mayBe(word, i, v)) return -1 - first;
        }
        switch (word) {
            case "arm" -> plainArm(v[0], v[1], v[2], v[3], v[4], v[5]);
            case "doll" -> plainDoll(v[0], v[1], v[2], v[3], v[4], v[5], v[6]);
            case "on" -> come(arms.get(v[0]), v[1], arms.get(v[0]).side);
            case "off" -> leave(arms.get(v[0]));
            default -> dolls.get(v[0]).days = v[1];
        }
        return at;
    }

    private boolean mayBe(String word, int i, int[] v) {
        int x = v[i];
        switch (word) {
            case "arm": return i == 0 ? x <= 6 : i == 2 ? x <= 1 : x <= 9;
            case "doll": return i < 3 ? x <= 9 : i == 3 ? x <= 2 : i == 4 ? x >= 1 : i == 5 ? x <= 9 : x <= 40;
            case "on":
                if (i == 0) return isArm(x) && arms.get(x).doll < 0;
                return isDoll(x) && possible(arms.get(v[0]), x, arms.get(v[0]).side);
            case "off": return isArm(x) && arms.get(x).doll >= 0;
            default: return i == 1 || isDoll(x);
        }
    }

    // ---- what comes of it ----

    int fits(int arm, int doll, int side) {
        if (!isArm(arm) || !isDoll(doll)) return no(-1);
        if (!in(side, 0, 1)) return no(-6);
        return fit(arms.get(arm), dolls.get(doll), side) ? 1 : 0;
    }

    int unlike(int arm, int doll) {
        if (!isArm(arm) || !isDoll(doll)) return no(-1);
        return unlikeOf(arms.get(arm), dolls.get(doll));
    }

    int mayBits(int doll, int side) {
        int bits = 0;
        for (Arm a : arms) if (possible(a, doll, side)) bits += 1 << a.number;
        return bits;
    }

    int may(int doll, int side) {
        if (!isDoll(doll)) return no(-1);
        if (!in(side, 0, 1)) return no(-6);
        return mayBits(doll, side);
    }

    int best(int doll, int side) {
        if (!isDoll(doll)) return noApart(-1);
        if (!in(side, 0, 1)) return noApart(-6);
        int found = -1, least = 9999;
        for (Arm a : arms) {
            if (possible(a, doll, side) && unlikeOf(a, dolls.get(doll)) < least) {
                found = a.number;
                least = unlikeOf(a, dolls.get(doll));
            }
        }
        return found;
    }

    /** The best parting: how many, how unlike, and who has which; found by trying all, in the order of rows. */
    static final class Best {
        int many = -1, unlike;
        int[] given;
    }

    Best wholeBest() {
        Best b = new Best();
        int[] given = new int[2 * dolls.size()];
        boolean[] used = new boolean[arms.size()];
        partings(b, given, used, 0, 0, 0);
        return b;
    }

    private void partings(Best b, int[] given, boolean[] used, int i, int many, int far) {
        if (i == given.length) {
            if (many > b.many || many == b.many && far < b.unlike) {
                b.many = many;
                b.unlike = far;
                b.given = given.clone();
            }
            return;
        }
        // what can't become better than what is known is not looked at
        if (many + given.length - i < b.many) return;
        for (Arm a : arms) {
            if (!used[a.number] && possible(a, i / 2, i % 2)) {
                used[a.number] = true;
                given[i] = a.number;
                partings(b, given, used, i + 1, many + 1, far + unlikeOf(a, dolls.get(i / 2)));
                used[a.number] = false;
            }
        }
        given[i] = -1;
        partings(b, given, used, i + 1, many, far);
    }

    int whole(int what) {
        if (!in(what, 0, 1)) return no(-5);
        Best b = wholeBest();
        return what == 0 ? b.many : b.unlike;
    }

    int given(int i) {
        if (!in(i, 0, 2 * dolls.size() - 1)) return noApart(-5);
        return wholeBest().given[i];
    }

    int cast() {
        int found = -1, many = -1, far = 0;
        for (int side = 0; side < 2; side++) {
            for (int size = 0; size < 10; size++) {
                for (int shade = 0; shade < 10; shade++) {
                    SlowShop t = twin();
                    t.plainArm(0, 0, side, size, shade, 0);
                    Best b = t.wholeBest();
                    if (b.many > many || b.many == many && b.unlike < far) {
                        many = b.many;
                        far = b.unlike;
                        found = 100 * side + 10 * size + shade;
                    }
                }
            }
        }
        return found;
    }

    int tea(int arm, int doll) {
        if (!isArm(arm) || !isDoll(doll)) return no(-1);
        int found = -1, least = 9999;
        for (int t = 0; t < 10; t++) {
            Arm a = arms.get(arm).like();
            for (int k = 0; k < t; k++) if (a.shade < 9) a.shade++;
            if (unlikeOf(a, dolls.get(doll)) < least) {
                least = unlikeOf(a, dolls.get(doll));
                found = t;
            }
        }
        return found;
    }

    int comes(int doll, int n) {
        if (!isDoll(doll)) return no(-1);
        if (!in(n, 0, 99)) return no(-6);
        return 1000 * n / (dolls.get(doll).days + n + 1);
    }

    private int queueCost;
    private int[] queueRow;

    private void queues(int[] row, int i, int time, int cost) {
        if (i == row.length) {
            if (queueRow == null || cost < queueCost) {
                queueCost = cost;
                queueRow = row.clone();
            }
            return;
        }
        for (int d = 0; d < row.length; d++) {
            boolean used = false;
            for (int k = 0; k < i; k++) used |= row[k] == d;
            if (!used) {
                row[i] = d;
                int then = time + dolls.get(d).minutes;
                queues(row, i + 1, then, cost + dolls.get(d).tears * then);
            }
        }
    }

    int queue(int i) {
        if (!in(i, -1, dolls.size() - 1)) return no(-5);
        queueRow = null;
        queues(new int[dolls.size()], 0, 0, 0);
        return i == -1 ? queueCost : queueRow[i];
    }

    int feast(int time, int what) {
        if (!in(what, 0, 1)) return no(-5);
        if (!in(time, 0, 400)) return no(-6);
        int found = 0, most = 0;
        for (int bits = 0; bits < 1 << dolls.size(); bits++) {
            int tears = 0, minutes = 0;
            for (int d = 0; d < dolls.size(); d++) {
                if ((bits & 1 << d) != 0) {
                    tears += dolls.get(d).tears;
                    minutes += dolls.get(d).minutes;
                }
            }
            if (minutes <= time && tears > most) {
                most = tears;
                found = bits;
            }
        }
        return what == 0 ? found : most;
    }

    int looks(int s, int arm, int what) {
        if (!shelf(s) || !isArm(arm)) return no(-1);
        if (rowBar(s) != 0) return no(rowBar(s));
        Row r = rowOf(s);
        if (r.e.length < dolls.size() || !in(what, 0, 1)) return no(-5);
        int bits = 0;
        for (int v = 0; v < 10; v++) {
            Arm a = arms.get(arm).like();
            if (what == 0) a.shade = v; else a.wear = v;
            boolean all = true;
            for (int d = 0; d < dolls.size(); d++) all &= unlikeOf(a, dolls.get(d)) == (int) r.e[d];
            if (all) bits |= 1 << v;
        }
        return bits;
    }

    int dearest(int what) {
        if (!in(what, 0, 1)) return noApart(-5);
        int found = -1;
        if (what == 0) {
            int many = 99, far = 0;
            for (Arm a : arms) {
                if (a.doll < 0) {
                    a.doll = 99; // out of the drawer for a while
                    Best b = wholeBest();
                    a.doll = -1;
                    if (b.many < many || b.many == many && b.unlike > far) {
                        many = b.many;
                        far = b.unlike;
                        found = a.number;
                    }
                }
            }
            return found;
        }
        int least = allOn();
        for (int i = 0; i < arms.size(); i++) {
            for (int j = i + 1; j < arms.size(); j++) {
                if (arms.get(i).doll < 0 || arms.get(j).doll < 0 || arms.get(i).at != arms.get(j).at) continue;
                SlowShop t = twin();
                Arm a = t.arms.get(i), b = t.arms.get(j);
                int side = a.at, d = a.doll, e = b.doll;
                if (!fit(a, t.dolls.get(e), side) || !fit(b, t.dolls.get(d), side)) continue;
                t.leave(a);
                t.leave(b);
                t.come(a, e, side);
                t.come(b, d, side);
                if (t.allOn() < least) {
                    least = t.allOn();
                    found = 10 * i + j;
                }
            }
        }
        return found;
    }

    // ---- told days, and days in truth ----

    private int dayBar(int s, int n) {
        if (rowBar(s) != 0) return rowBar(s);
        if (n < 0) return -4;
        if (2L * n > rowOf(s).e.length) return -5;
        return n > 20 ? -6 : 0;
    }

    private int wrongTwo(SlowShop t, int s, int n) {
        for (int i = 0; i < n; i++) {
            int arm = (int) rowOf(s).e[2 * i], spot = (int) rowOf(s).e[2 * i + 1];
            boolean can = false;
            for (int d = 0; d < dolls.size(); d++) {
                for (int side = 0; side < 2; side++) {
                    if (spot == 10 * d + side && isArm(arm) && t.possible(t.arms.get(arm), d, side)) {
                        t.doMend(t.arms.get(arm), d, side);
                        can = true;
                        d = 5;
                        break;
                    }
                }
            }
            if (!can) return i;
        }
        return -1;
    }

    int judge(int s, int n) {
        if (dayBar(s, n) != 0) return noApart(dayBar(s, n));
        return wrongTwo(twin(), s, n);
    }

    int behind(int s, int n, int what) {
        int bar = dayBar(s, n);
        if (bar < 0 && bar > -6) return no(bar);
        if (!in(what, 0, 2)) return no(-5);
        if (bar == -6) return no(-6);
        SlowShop t = twin();
        if (wrongTwo(t, s, n) != -1) return no(-6);
        if (what == 0) return t.bothCount();
        if (what == 1) return t.allOn();
        int hers = 0;
        for (int d = 0; d < t.dolls.size(); d++) if (t.her(d)) hers++;
        return hers;
    }

    int done(int s, int n) {
        if (dayBar(s, n) != 0) return no(dayBar(s, n));
        SlowShop t = twin();
        if (wrongTwo(t, s, n) != -1) return no(-6);
        become(t);
        return mended;
    }

    int mend(int arm, int doll, int side) {
        if (!isArm(arm) || !isDoll(doll)) return no(-1);
        if (!in(side, 0, 1) || !possible(arms.get(arm), doll, side)) return no(-6);
        doMend(arms.get(arm), doll, side);
        return spent;
    }

    int off(int arm) {
        if (!isArm(arm)) return no(-1);
        Arm a = arms.get(arm);
        if (a.doll < 0) return no(-6);
        int was = 10 * a.doll + a.at;
        leave(a);
        return was;
    }

    private int draw(int n) {
        seed = seed * 1103515245 + 12345;
        return (seed >> 16 & 0xffff) % n;
    }

    int days(int n) {
        if (arms.isEmpty() || dolls.isEmpty()) return no(-5);
        if (!in(n, 1, 60)) return no(-6);
        for (int i = 0; i < n; i++) {
            for (Doll d : dolls) if (d.days < 99) d.days++;
            today++;
            Arm a = arms.get(draw(arms.size()));
            int d = draw(dolls.size());
            int side = draw(2);
            if (possible(a, d, side)) doMend(a, d, side);
            else if (dolls.get(d).has[side] == a) leave(a);
        }
        return mended;
    }

    int seed(int v) {
        int was = seed;
        seed = v;
        return was;
    }

    int act(int arm, int move, int x) {
        trace.clear();
        if (!isArm(arm) || !in(move, 0, 2)) return 0;
        Arm a = arms.get(arm);
        return move == 0 ? a.bends(x) : move == 1 ? a.waves(x) : a.drops(x);
    }

    int trace(int i) { return i >= 0 && i < 20 && i < trace.size() ? trace.get(i) : -1; }

    int image() {
        image = twin();
        return arms.size();
    }

    int restore() {
        if (image == null) return no(-6);
        become(image);
        for (int s = 0; s < 8; s++) if (shelves[s] instanceof Integer n && n >= arms.size()) shelves[s] = null;
        return arms.size();
    }

    int status(int what) {
        int drawer = 0;
        for (Arm a : arms) if (a.doll < 0) drawer++;
        return switch (what) {
            case 0 -> arms.size();
            case 1 -> dolls.size();
            case 2 -> drawer;
            case 3 -> bothCount();
            case 4 -> mended;
            case 5 -> spent;
            case 6 -> today;
            case 7 -> seed;
            case 8 -> trace.size();
            case 11, 12, 13, 14, 15, 16, 17 -> refusals[what - 10];
            default -> -1;
        };
    }
}
