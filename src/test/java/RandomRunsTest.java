import java.util.Map;
import java.util.Random;
import java.util.TreeMap;

/** Random runs of calls (always the same ones), each answer held against SlowShop's. */
public final class RandomRunsTest {
    private static final int RUNS = 1500;
    private static final int[] STRANGE = {Integer.MIN_VALUE, Integer.MAX_VALUE, -2, -1, 8, 9, 10, 21, 100, 160, 161, 1 << 30};

    /** How often each call answered 0 or more, and below 0: a run that never gets anywhere shows nothing. */
    private static final Map<String, Integer> TALLY = new TreeMap<>();

    private static final String[] OFTEN = {"a swap", "act", "arm", "behind", "best", "cast", "copy", "dearest", "done", "feast",
        "given", "judge", "looks", "mend", "off", "on", "queue", "restore", "says", "shop", "shop below 0", "tea", "whole"};

    private final Random random;
    private final DrawerOfArms x = new DrawerOfArms();
    private final SlowShop y = new SlowShop();
    private final int run;
    /** Sizes keep to a few in some runs, so that many arms fit many dolls. */
    private final int sizes;
    private final int strangeness;
    private int calls = 0;

    private RandomRunsTest(int run) {
        this.run = run;
        random = new Random(run * 7919L + 5);
        sizes = new int[] {2, 4, 10}[run % 3];
        strangeness = new int[] {0, 3, 12}[run / 3 % 3];
    }

    private static void tally(String answer) {
        TALLY.merge(answer, 1, Integer::sum);
    }

    private int below(int n) {
        return random.nextInt(n);
    }

    private int number(int n) {
        return below(100) < strangeness ? STRANGE[below(STRANGE.length)] : below(n);
    }

    private void is(String call, long got, long want) {
        calls++;
        tally(call.substring(0, call.indexOf('(')) + (want < 0 ? " below 0" : ""));
        Due.is("run " + run + ", call " + calls + ", " + call, got, want);
    }

    private int armNumber() { return number(Math.max(1, y.arms.size() + (below(8) == 0 ? 1 : 0))); }
    private int dollNumber() { return number(Math.max(1, y.dolls.size() + (below(8) == 0 ? 1 : 0))); }

    private void addArm() {
        int k = number(7), a = number(10), s = number(2), z = number(sizes), h = number(10), w = number(10);
        is("arm(" + k + ", " + a + ", " + s + ", " + z + ", " + h + ", " + w + ")", x.arm(k, a, s, z, h, w), y.arm(k, a, s, z, h, w));
    }

    private void addDoll() {
        int z = number(sizes), h = number(10), w = number(10), v = number(3), m = 1 + number(99), t = number(10), b = number(41);
        is("doll(" + z + ", " + h + ", " + w + ", " + v + ", " + m + ", " + t + ", " + b + ")",
                x.doll(z, h, w, v, m, t, b), y.doll(z, h, w, v, m, t, b));
    }

    private void put(int s, int i, long v) {
        is("set(" + s + ", " + i + ", " + v + ")", x.set(s, i, v), y.set(s, i, v));
    }

    private void newRow(int s, int sort, int n) {
        is("row(" + s + ", " + sort + ", " + n + ")", x.row(s, sort, n), y.row(s, sort, n));
    }

    private String item() {
        int arms = Math.max(1, y.arms.size() + below(2)), dolls = Math.max(1, y.dolls.size() + below(2));
        switch (below(6)) {
            case 0: return "arm " + n(7) + n(10) + n(2) + n(sizes) + n(10) + n(10).trim();
            case 1: return "doll " + n(sizes) + n(10) + n(10) + n(3) + (1 + below(99)) + " " + n(10) + n(41).trim();
            case 2: return "off " + n(arms).trim();
            case 3: return "lies " + n(dolls) + n(100).trim();
            default: {
                int a = below(arms), d = below(dolls);
                for (int k = 0; k < 30 && below(10) != 0; k++) {
                    boolean there = a < y.arms.size() && d < y.dolls.size();
                    if (there && y.possible(y.arms.get(a), d, y.arms.get(a).side)) break;
                    a = below(arms);
                    d = below(dolls);
                }
                return "on " + a + " " + d;
            }
        }
    }

    private String n(int n) {
        int v = below(40) == 0 ? below(100) : below(n);
        return (below(20) == 0 && v < 10 ? "0" : "") + v + " ";
    }

    private void readShop() {
        StringBuilder t = new StringBuilder(item());
        for (int more = below(4); more > 0; more--) {
            t.append(';').append(item());
        }
        for (int wrongs = below(4) == 0 ? 1 : 0; wrongs > 0 && t.length() > 1; wrongs--) {
            int p = below(t.length());
            switch (below(3)) {
                case 0: t.deleteCharAt(p); break;
                case 1: t.setCharAt(p, " ;0129adlonfx".charAt(below(13))); break;
                default: t.setLength(p); break;
            }
        }
        int s = below(8);
        newRow(s, below(4), Math.min(160, t.length()));
        for (int i = 0; i < t.length() && i < 160; i++) {
            put(s, i, t.charAt(i) + (below(50) == 0 ? 1L << 32 : 0));
        }
        is("shop(" + s + ") of " + t, x.shop(s), y.shop(s));
        is("fault()", x.fault(), y.fault);
    }

    private void dayRow() {
        int s = below(8);
        int n = below(5);
        newRow(s, below(4), 2 * n + below(2));
        for (int i = 0; i < n; i++) {
            put(s, 2 * i, armNumber());
            put(s, 2 * i + 1, 10 * dollNumber() + (below(20) == 0 ? below(10) : below(2)));
        }
        int m = number(n + 1 + below(2));
        int what = below(3);
        is("judge(" + s + ", " + m + ")", x.judge(s, m), y.judge(s, m));
        is("behind(" + s + ", " + m + ", " + what + ")", x.behind(s, m, what), y.behind(s, m, what));
        if (below(2) == 0) {
            is("done(" + s + ", " + m + ")", x.done(s, m), y.done(s, m));
        }
    }

    private void lookRow() {
        int s = below(8);
        int arm = armNumber();
        int what = number(2);
        int n = y.dolls.size() + below(2) - (below(10) == 0 ? 1 : 0);
        newRow(s, below(4), n);
        if (arm >= 0 && arm < y.arms.size()) {
            int shift = below(3) - 1;
            for (int d = 0; d < n && d < y.dolls.size(); d++) {
                int wish = y.dolls.get(d).wish;
                put(s, d, SlowShop.unlikeOf(y.arms.get(arm), y.dolls.get(d)) + (wish == 2 ? 0 : shift));
            }
        }
        is("looks(" + s + ", " + arm + ", " + what + ")", x.looks(s, arm, what), y.looks(s, arm, what));
    }

    private void shelfCall() {
        int s = number(8), t = number(8), i = number(6), j = number(6), n = number(5);
        long v = below(3) == 0 ? random.nextLong() : below(300) - 150;
        switch (below(7)) {
            case 0: newRow(s, number(4), number(12)); break;
            case 1: put(s, i, v); break;
            case 2: is("copy(" + s + ", " + t + ", " + i + ", " + j + ", " + n + ")", x.copy(s, t, i, j, n), y.copy(s, t, i, j, n)); break;
            case 3: is("element(" + s + ", " + i + ")", x.element(s, i), y.element(s, i)); break;
            case 4: {
                int a = below(5) == 0 ? -1 : armNumber();
                is("show(" + s + ", " + a + ")", x.show(s, a), y.show(s, a));
                break;
            }
            case 5: is("holds(" + s + ")", x.holds(s), y.holds(s)); break;
            default: {
                for (int k = 0; k < 20 && (s < 0 || s > 7 || y.holds(s) < 0 || y.holds(s) > 7); k++) s = below(8);
                is("says(" + s + ", " + i + ")", x.says(s, i), y.says(s, i));
                break;
            }
        }
    }

    private void changeCall() {
        int a = armNumber(), d = dollNumber(), side = number(2), what = number(4), v = number(10);
        switch (below(10)) {
            case 0: addArm(); break;
            case 1: addDoll(); break;
            case 2: is("dye(" + a + ", " + what + ", " + v + ")", x.dye(a, what, v), y.dye(a, what, v)); break;
            case 3: is("tell(" + d + ", " + what + ", " + v + ")", x.tell(d, what, v), y.tell(d, what, v)); break;
            case 4:
            case 5: {
                int bits = d >= 0 && d < y.dolls.size() && side >= 0 && side < 2 ? y.mayBits(d, side) : 0;
                while (bits != 0 && below(5) != 0 && (a < 0 || a > 7 || (bits >> a & 1) == 0)) a = below(8);
                is("mend(" + a + ", " + d + ", " + side + ")", x.mend(a, d, side), y.mend(a, d, side));
                break;
            }
            case 6: is("off(" + a + ")", x.off(a), y.off(a)); break;
            case 7: {
                int n = number(62);
                is("days(" + n + ")", x.days(n), y.days(n));
                break;
            }
            case 8: {
                int w = below(2) == 0 ? below(100) : random.nextInt();
                is("seed(" + w + ")", x.seed(w), y.seed(w));
                break;
            }
            default:
                if (below(2) == 0) is("image()", x.image(), y.image());
                else is("restore()", x.restore(), y.restore());
                break;
        }
    }

    private void askCall() {
        int a = armNumber(), d = dollNumber(), side = number(2), what = number(9), n = number(100);
        switch (below(13)) {
            case 12: swapCall(); break;
            case 0: is("armOf(" + a + ", " + what + ")", x.armOf(a, what), y.armOf(a, what)); break;
            case 1: is("dollOf(" + d + ", " + what + ")", x.dollOf(d, what), y.dollOf(d, what)); break;
            case 2: is("on(" + d + ", " + side + ")", x.on(d, side), y.on(d, side)); break;
            case 3: is("fits(" + a + ", " + d + ", " + side + ")", x.fits(a, d, side), y.fits(a, d, side)); break;
            case 4: is("unlike(" + a + ", " + d + ")", x.unlike(a, d), y.unlike(a, d)); break;
            case 5: is("may(" + d + ", " + side + ")", x.may(d, side), y.may(d, side)); break;
            case 6: is("best(" + d + ", " + side + ")", x.best(d, side), y.best(d, side)); break;
            case 7: is("tea(" + a + ", " + d + ")", x.tea(a, d), y.tea(a, d)); break;
            case 8: is("comes(" + d + ", " + n + ")", x.comes(d, n), y.comes(d, n)); break;
            case 9: {
                int i = dollNumber() - below(2);
                is("queue(" + i + ")", x.queue(i), y.queue(i));
                break;
            }
            case 10: {
                int t = number(402), w = number(3);
                is("feast(" + t + ", " + w + ")", x.feast(t, w), y.feast(t, w));
                break;
            }
            default: actCall(a); break;
        }
    }

    /** Of all that are on: the tally tells it apart from the other dearest(). */
    private void swapCall() {
        is("dearest(1)", x.dearest(1), y.dearest(1));
        if (y.dearest(1) != -1) {
            tally("a swap");
        }
    }

    private void actCall(int a) {
        int move = number(3), z = below(2) == 0 ? below(50) : random.nextInt();
        is("act(" + a + ", " + move + ", " + z + ")", x.act(a, move, z), y.act(a, move, z));
        for (int i = -1; i < 13; i++) {
            is("trace(" + i + ")", x.trace(i), y.trace(i));
        }
    }

    /** How many ways a slow parting may go: too many are not tried. */
    private boolean isQuick(int most) {
        long ways = 1;
        for (int d = 0; d < y.dolls.size(); d++) {
            for (int side = 0; side < 2; side++) {
                ways *= 1 + Integer.bitCount(y.mayBits(d, side));
            }
        }
        return ways <= most;
    }

    private void partingCall() {
        if (!isQuick(20000)) {
            return;
        }
        int i = number(2 * y.dolls.size() + 1), what = number(3);
        is("whole(" + what + ")", x.whole(what), y.whole(what));
        is("given(" + i + ")", x.given(i), y.given(i));
        is("dearest(" + what + ")", x.dearest(what), y.dearest(what));
        if (isQuick(300)) {
            is("cast()", x.cast(), y.cast());
        }
    }

    private void goOn() {
        if (run % 4 != 0) {
            for (int i = below(9); i > 0; i--) addArm();
            for (int i = below(6); i > 0; i--) addDoll();
        }
        while (calls < 480) {
            int kind = below(40);
            if (kind < 12) askCall();
            else if (kind < 20) changeCall();
            else if (kind < 26) shelfCall();
            else if (kind < 30) partingCall();
            else if (kind < 33) dayRow();
            else if (kind < 36) lookRow();
            else if (kind < 37) readShop();
            else {
                int what = number(20);
                is("status(" + what + ")", x.status(what), y.status(what));
            }
        }
        for (int what = 0; what < 20; what++) {
            is("status(" + what + ")", x.status(what), y.status(what));
        }
    }

    public static void main(String[] args) {
        for (int run = 0; run < RUNS && Due.wrongs() == 0; run++) {
            new RandomRunsTest(run).goOn();
        }
        for (String answer : OFTEN) {
            Due.holds("many of " + answer + ": " + TALLY.getOrDefault(answer, 0), TALLY.getOrDefault(answer, 0) >= 100);
        }
        Due.end("RandomRunsTest");
    }
}
