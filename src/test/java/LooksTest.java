/** Promises 18 to 30: looks, and what comes of them. */
public final class LooksTest {
    public static void main(String[] args) {
        promise18Fits();
        promise19Unlike();
        promise20MayAnd21Best();
        promise20MayAnd21BestRefusals();
        promise22WholeAnd23Given();
        promise22WholeCountsAheadOfUnlike();
        promise23GivenTies();
        promise24Cast();
        promise25Tea();
        promise26Comes();
        promise27Queue();
        promise28Feast();
        promise29Looks();
        promise29LooksRefusals();
        promise30Dearest();
        promise30Swap();
        promise30SwapBounds();
        promise30SwapByOne();
        promise30SwapLeavesMostLike();
        Due.end("LooksTest");
    }

    private static void promise18Fits() {
        DrawerOfArms x = new DrawerOfArms();
        x.doll(5, 0, 0, 0, 1, 0, 0);
        for (int kind = 0; kind < 7; kind++) {
            x.arm(kind, 0, kind % 2, 5, 0, 0);
        }
        for (int kind = 0; kind < 7; kind++) {
            for (int side = 0; side < 2; side++) {
                boolean due = kind == 4 || side == kind % 2;
                Due.is("kind " + kind + ", side " + side, x.fits(kind, 0, side), due ? 1 : 0);
            }
        }
        Due.is("wherever it is", x.mend(0, 0, 0), 1);
        Due.is("on her", x.fits(0, 0, 0), 1);
        Due.is("no arm ahead of the side", x.fits(7, 0, 2), -1);
        Due.is("no arm", x.fits(-1, 0, 0), -1);
        Due.is("no doll", x.fits(0, 1, 2), -1);
        Due.is("no doll", x.fits(0, -1, 0), -1);
        Due.is("side", x.fits(0, 0, 2), -6);
        Due.is("side", x.fits(0, 0, -1), -6);
        for (int kind = 0; kind < 7; kind++) {
            for (int size = 0; size < 10; size++) {
                DrawerOfArms y = new DrawerOfArms();
                y.doll(5, 0, 0, 0, 1, 0, 0);
                y.arm(kind, 9, 0, size, 0, 0);
                int apart = Math.abs(size - 5);
                Due.is("kind " + kind + ", size " + size, y.fits(0, 0, 0), apart <= (kind == 6 ? 2 : 1) ? 1 : 0);
            }
        }
    }

    private static void promise19Unlike() {
        DrawerOfArms x = new DrawerOfArms();
        x.doll(5, 4, 6, 0, 1, 0, 0);
        x.doll(5, 4, 6, 1, 1, 0, 0);
        x.doll(5, 4, 6, 2, 1, 0, 0);
        // size 3, shade 7, wear 2, a 1; as seen: shade 7 or 8 (stained), wear 2, 0 (cast), 3 (robbed), 8 (old), 4 (glued)
        int[][] due = {{4 + 3 + 4, 4 + 3 + 2, 4}, {4 + 4 + 4, 4 + 4 + 2, 4}, {4 + 3 + 6, 4 + 3, 4}, {4 + 4 + 3, 4 + 4 + 3, 4},
            {4 + 3 + 4, 4 + 3 + 2, 4}, {4 + 3 + 2, 4 + 3 + 8, 4}, {4 + 4 + 2, 4 + 4 + 4, 4}};
        for (int kind = 0; kind < 7; kind++) {
            x.arm(kind, 1, 0, 3, 7, 2);
            for (int d = 0; d < 3; d++) {
                Due.is("kind " + kind + ", doll " + d, x.unlike(kind, d), due[kind][d]);
            }
        }
        Due.is("no arm", x.unlike(7, 0), -1);
        Due.is("no arm", x.unlike(-1, 0), -1);
        Due.is("no doll", x.unlike(0, 3), -1);
        Due.is("no doll", x.unlike(0, -1), -1);
        Due.is("counted", x.status(11), 4);
    }

    private static void promise20MayAnd21Best() {
        DrawerOfArms x = new DrawerOfArms();
        x.doll(5, 5, 0, 0, 1, 0, 0);
        x.doll(5, 5, 0, 0, 1, 0, 0);
        Due.is("none may", x.may(0, 0), 0);
        Due.is("none is best", x.best(0, 0), -1);
        x.arm(0, 0, 0, 5, 1, 0); // unlike 4
        x.arm(0, 0, 1, 5, 5, 0); // of the other side
        x.arm(0, 0, 0, 4, 4, 0); // 3
        x.arm(0, 0, 0, 7, 5, 0); // too large
        x.arm(4, 0, 1, 5, 8, 0); // 3, doubled
        x.arm(0, 0, 0, 5, 5, 0); // 0
        Due.is("may, left", x.may(0, 0), 0b110101);
        Due.is("may, right", x.may(0, 1), 0b010010);
        Due.is("best", x.best(0, 0), 5);
        x.dye(0, 0, 5);
        Due.is("the first is as good", x.best(0, 0), 0);
        x.dye(0, 0, 1);
        x.mend(5, 1, 0);
        Due.is("only in the drawer", x.may(0, 0), 0b010101);
        Due.is("of several the first", x.best(0, 0), 2);
        Due.is("not empty: none may", x.may(1, 0), 0);
        Due.is("not empty: none is best", x.best(1, 0), -1);
    }

    private static void promise20MayAnd21BestRefusals() {
        DrawerOfArms x = new DrawerOfArms();
        x.doll(5, 5, 0, 0, 1, 0, 0);
        Due.is("may: doll ahead of the side", x.may(1, 2), -1);
        Due.is("may: doll", x.may(-1, 0), -1);
        Due.is("may: side", x.may(0, 2), -6);
        Due.is("may: side", x.may(0, -1), -6);
        Due.is("best: doll ahead of the side", x.best(1, 2), -11);
        Due.is("best: doll", x.best(-1, 0), -11);
        Due.is("best: side", x.best(0, 2), -16);
        Due.is("best: side", x.best(0, -1), -16);
        Due.is("counted", x.status(11) * 10 + x.status(16), 44);
    }

    private static void promise22WholeAnd23Given() {
        DrawerOfArms x = new DrawerOfArms();
        Due.is("of nothing: how many", x.whole(0), 0);
        Due.is("of nothing: unlike", x.whole(1), 0);
        x.doll(5, 5, 0, 0, 1, 0, 0);
        x.doll(5, 3, 0, 0, 1, 0, 0);
        x.arm(0, 0, 0, 5, 4, 0); // 1 and 1
        x.arm(0, 0, 0, 5, 5, 0); // 0 and 2
        x.arm(0, 0, 1, 6, 3, 0); // 4 and 2
        Due.is("how many", x.whole(0), 3);
        Due.is("unlike", x.whole(1), 0 + 1 + 2);
        isGiven(x, 1, -1, 0, 2);
        x.mend(1, 1, 0);
        Due.is("how many now", x.whole(0), 2);
        Due.is("unlike now", x.whole(1), 1 + 2);
        isGiven(x, 0, -1, -1, 2);
        Due.is("what", x.whole(2), -5);
        Due.is("what", x.whole(-1), -5);
        Due.is("no side", x.given(4), -15);
        Due.is("no side", x.given(-1), -15);
        Due.is("counted", x.status(15), 4);
    }

    private static void isGiven(DrawerOfArms x, int... due) {
        for (int i = 0; i < due.length; i++) {
            Due.is("given(" + i + ")", x.given(i), due[i]);
        }
    }

    private static void promise22WholeCountsAheadOfUnlike() {
        DrawerOfArms x = new DrawerOfArms();
        x.doll(5, 5, 0, 0, 1, 0, 0);
        x.doll(7, 5, 0, 0, 1, 0, 0);
        x.arm(0, 0, 0, 6, 5, 0); // fits both: 2 and 2
        x.arm(0, 0, 0, 5, 0, 9); // the first alone: 14
        x.arm(4, 0, 0, 9, 5, 0); // none
        Due.is("both sides", x.whole(0), 2);
        Due.is("though more unlike", x.whole(1), 16);
        isGiven(x, 1, -1, 0, -1);
    }

    private static void promise23GivenTies() {
        DrawerOfArms x = new DrawerOfArms();
        x.doll(5, 5, 0, 2, 1, 0, 0);
        x.doll(5, 5, 0, 2, 1, 0, 0);
        x.arm(4, 0, 0, 5, 0, 0);
        x.arm(0, 0, 1, 5, 0, 0);
        Due.is("two sides", x.whole(0), 2);
        isGiven(x, 0, 1, -1, -1);
        x.arm(0, 0, 0, 5, 0, 0);
        isGiven(x, 0, 1, 2, -1);
        x.arm(4, 0, 0, 5, 0, 0);
        isGiven(x, 0, 1, 2, 3);
        x.arm(0, 0, 0, 5, 0, 0);
        isGiven(x, 0, 1, 2, 3);
        // NONE stands behind all arms: of one arm and two like sides the first has it
        DrawerOfArms y = new DrawerOfArms();
        y.doll(5, 5, 0, 2, 1, 0, 0);
        y.doll(5, 5, 0, 2, 1, 0, 0);
        y.arm(0, 0, 1, 5, 0, 0);
        isGiven(y, -1, 0, -1, -1);
    }

    private static void promise24Cast() {
        DrawerOfArms x = new DrawerOfArms();
        Due.is("no side to be filled: the least of all", x.cast(), 0);
        x.doll(5, 7, 3, 1, 1, 0, 0);
        Due.is("as she is, left", x.cast(), 57);
        x.arm(0, 0, 0, 5, 7, 3);
        Due.is("right is empty", x.cast(), 157);
        x.arm(0, 0, 1, 5, 7, 0);
        Due.is("both are filled: less unlike (wear 3, as new)", x.cast(), 57);
        x.dye(0, 1, 0);
        Due.is("no better: the least of all", x.cast(), 0);
        x.tell(0, 0, 2);
        x.mend(0, 0, 0);
        x.off(1);
        x.mend(1, 0, 1);
        x.doll(8, 4, 0, 2, 1, 0, 0);
        Due.is("that it holds: shade is nothing", x.cast(), 80);
        Due.is("nothing came of it", x.status(0), 2);
        for (int i = 2; i < 8; i++) {
            x.arm(0, 0, 0, 0, 0, 0);
        }
        Due.is("a ninth, thought of", x.cast(), 80);
        // one arm that may go to two dolls: what is cast frees it for the other
        DrawerOfArms y = new DrawerOfArms();
        y.doll(5, 5, 0, 0, 1, 0, 0);
        y.doll(6, 9, 0, 0, 1, 0, 0);
        y.arm(0, 0, 0, 6, 9, 0);
        y.arm(0, 0, 1, 5, 5, 0);
        y.arm(0, 0, 1, 6, 9, 0);
        Due.is("for the first", y.cast(), 55);
    }

    private static void promise25Tea() {
        DrawerOfArms x = new DrawerOfArms();
        x.doll(5, 7, 0, 0, 1, 0, 0);
        x.doll(5, 7, 0, 2, 1, 0, 0);
        x.arm(0, 0, 0, 5, 2, 0);
        x.arm(1, 3, 0, 5, 2, 0);
        x.arm(0, 0, 0, 5, 8, 0);
        Due.is("minutes", x.tea(0, 0), 5);
        Due.is("as it is seen", x.tea(1, 0), 2);
        Due.is("too dark already", x.tea(2, 0), 0);
        Due.is("of several the least", x.tea(0, 1), 0);
        x.doll(5, 9, 0, 1, 1, 0, 0);
        x.dye(0, 0, 0);
        Due.is("nine", x.tea(0, 2), 9);
        Due.is("9 at most", x.tea(2, 2), 1);
        Due.is("stained: 9 at most", x.tea(1, 2), 4);
        Due.is("nothing is changed", x.armOf(0, 4), 0);
        Due.is("no arm", x.tea(3, 0), -1);
        Due.is("no arm", x.tea(-1, 0), -1);
        Due.is("no doll", x.tea(0, 3), -1);
        Due.is("no doll", x.tea(0, -1), -1);
        Due.is("counted", x.status(11), 4);
    }

    private static void promise26Comes() {
        DrawerOfArms x = new DrawerOfArms();
        x.doll(5, 7, 0, 0, 1, 0, 0);
        Due.is("none", x.comes(0, 0), 0);
        Due.is("99", x.comes(0, 99), 990);
        Due.is("cut", x.comes(0, 2), 666);
        x.tell(0, 3, 99);
        Due.is("she lay long", x.comes(0, 99), 497);
        Due.is("0 of 100", x.comes(0, 0), 0);
        Due.is("no doll, ahead of n", x.comes(1, 100), -1);
        Due.is("no doll", x.comes(-1, 0), -1);
        Due.is("n", x.comes(0, 100), -6);
        Due.is("n", x.comes(0, -1), -6);
        Due.is("counted", x.status(11) * 10 + x.status(16), 22);
    }

    private static void promise27Queue() {
        DrawerOfArms x = new DrawerOfArms();
        Due.is("of nobody", x.queue(-1), 0);
        Due.is("nobody is first", x.queue(0), -5);
        x.doll(0, 0, 0, 0, 20, 1, 0);
        x.doll(0, 0, 0, 0, 10, 5, 0);
        x.doll(0, 0, 0, 0, 40, 2, 0);
        // 1 (50), then 0 and 2 alike by minutes to tears: 30 + 2 * 70 = 170, or 2 * 50 + 70 = 170
        Due.is("how much", x.queue(-1), 50 + 170);
        Due.is("first", x.queue(0), 1);
        Due.is("then, of several the first by rows", x.queue(1), 0);
        Due.is("last", x.queue(2), 2);
        x.tell(1, 1, 0);
        Due.is("no tears: last, for she costs nothing there", x.queue(2), 1);
        Due.is("how much now", x.queue(-1), 20 + 120);
        x.tell(0, 1, 0);
        x.tell(2, 1, 0);
        Due.is("all alike", x.queue(0) * 100 + x.queue(1) * 10 + x.queue(2), 12);
        Due.is("no such", x.queue(3), -5);
        Due.is("no such", x.queue(-2), -5);
        Due.is("counted", x.status(15), 3);
    }

    private static void promise28Feast() {
        DrawerOfArms x = new DrawerOfArms();
        Due.is("of nobody", x.feast(400, 0), 0);
        x.doll(0, 0, 0, 0, 30, 4, 0);
        x.doll(0, 0, 0, 0, 20, 3, 0);
        x.doll(0, 0, 0, 0, 10, 1, 0);
        x.doll(0, 0, 0, 0, 99, 0, 0);
        Due.is("0", x.feast(0, 0), 0);
        Due.is("10", x.feast(10, 0), 0b0100);
        Due.is("20", x.feast(20, 0), 0b0010);
        Due.is("30: of 0, and of 1 and 2, the least", x.feast(30, 0), 0b0001);
        Due.is("30: tears", x.feast(30, 1), 4);
        Due.is("59", x.feast(59, 0), 0b0011);
        Due.is("59: tears", x.feast(59, 1), 7);
        Due.is("400: who has no tears isn't told", x.feast(400, 0), 0b0111);
        Due.is("400: tears", x.feast(400, 1), 8);
        Due.is("what ahead of time", x.feast(401, 2), -5);
        Due.is("what", x.feast(0, -1), -5);
        Due.is("time", x.feast(401, 0), -6);
        Due.is("time", x.feast(-1, 1), -6);
        Due.is("counted", x.status(15) * 10 + x.status(16), 22);
    }

    private static void promise29Looks() {
        DrawerOfArms x = new DrawerOfArms();
        x.arm(0, 0, 0, 5, 4, 2);
        x.arm(1, 4, 0, 5, 4, 2);
        x.arm(2, 0, 0, 5, 4, 2);
        Due.fill(x, 1);
        Due.is("no dolls: all shades", x.looks(1, 0, 0), 1023);
        Due.is("no dolls: all wears", x.looks(1, 0, 1), 1023);
        x.doll(5, 5, 1, 0, 1, 0, 0);
        Due.fill(x, 1, 3, 99);
        Due.is("shades: 2 and 1 apart", x.looks(1, 0, 0), 1 << 3 | 1 << 7);
        Due.is("wears: 1 and 2 apart", x.looks(1, 0, 1), 1 << 3);
        Due.is("stained: seen 7 (or 3)", x.looks(1, 1, 0), 1 << 3);
        x.doll(5, 2, 0, 1, 1, 0, 0);
        Due.fill(x, 1, 3, 3);
        Due.is("two dolls: 3 alone", x.looks(1, 0, 0), 1 << 3);
        Due.fill(x, 1, 3, 4);
        Due.is("two dolls: none", x.looks(1, 0, 0), 0);
        Due.fill(x, 1, 1 + 1, 0 + 2);
        Due.is("cast: wear is not seen", x.looks(1, 2, 1), 1023);
        x.tell(0, 0, 2);
        x.tell(1, 0, 2);
        Due.fill(x, 1, 0, 0);
        Due.is("that it holds: all shades", x.looks(1, 0, 0), 1023);
        x.row(2, 3, 2);
        x.set(2, 0, 5L << 32);
        Due.is("read as ints", x.looks(2, 0, 1), 1023);
        Due.is("nothing is changed", x.armOf(0, 4) * 10 + x.armOf(0, 5), 42);
    }

    private static void promise29LooksRefusals() {
        DrawerOfArms x = new DrawerOfArms();
        x.arm(0, 0, 0, 5, 4, 2);
        x.doll(5, 5, 1, 0, 1, 0, 0);
        x.show(0, 0);
        x.row(2, 0, 0);
        x.row(3, 0, 1);
        Due.is("no shelf", x.looks(8, 0, 2), -1);
        Due.is("no arm, ahead of an arm held", x.looks(0, 1, 2), -1);
        Due.is("an arm", x.looks(0, 0, 2), -2);
        Due.is("nothing", x.looks(1, 0, 2), -3);
        Due.is("fewer elements", x.looks(2, 0, 0), -5);
        Due.is("what", x.looks(3, 0, 2), -5);
        Due.is("what", x.looks(3, 0, -1), -5);
        Due.is("counted", x.status(11) * 1000 + x.status(12) * 100 + x.status(13) * 10 + x.status(15), 2113);
    }

    private static void promise30Dearest() {
        DrawerOfArms x = new DrawerOfArms();
        Due.is("empty", x.dearest(0), -1);
        x.doll(5, 5, 0, 0, 1, 0, 0);
        x.arm(0, 0, 1, 5, 5, 0);
        x.arm(0, 0, 1, 5, 4, 0);
        Due.is("more unlike without it", x.dearest(0), 0);
        x.arm(0, 0, 0, 6, 5, 9);
        Due.is("fewest sides without it", x.dearest(0), 2);
        x.mend(2, 0, 0);
        Due.is("not in the drawer", x.dearest(0), 0);
        x.dye(0, 0, 4);
        Due.is("of several the first", x.dearest(0), 0);
        x.mend(1, 0, 1);
        Due.is("the one left, though none needs it", x.dearest(0), 0);
        Due.is("what", x.dearest(2), -15);
        Due.is("what", x.dearest(-1), -15);
        Due.is("counted", x.status(15), 2);
    }

    private static void promise30Swap() {
        DrawerOfArms x = new DrawerOfArms();
        Due.is("none", x.dearest(1), -1);
        x.doll(5, 1, 0, 0, 1, 0, 0);
        x.doll(5, 4, 0, 0, 1, 0, 0);
        x.doll(5, 9, 0, 0, 1, 0, 0);
        x.arm(0, 0, 0, 5, 9, 0);
        x.arm(0, 0, 0, 5, 4, 0);
        x.arm(0, 0, 0, 5, 1, 0);
        x.mend(0, 0, 0);
        x.mend(1, 1, 0);
        Due.is("two: 8 and 0 become 3 and 5, no less", x.dearest(1), -1);
        x.mend(2, 2, 0);
        // 8, 0, 8; 0 and 1: 3, 5, 8; 0 and 2: 0, 0, 0; 1 and 2: 8, 3, 5
        Due.is("the ends", x.dearest(1), 2);
        Due.is("nothing is changed", x.on(0, 0), 0);
    }

    private static void promise30SwapBounds() {
        DrawerOfArms x = new DrawerOfArms();
        x.doll(5, 1, 0, 0, 1, 0, 0);
        x.doll(6, 9, 0, 0, 1, 0, 0);
        x.doll(6, 9, 0, 0, 1, 0, 0);
        x.arm(0, 0, 0, 6, 9, 0);
        x.arm(0, 0, 0, 7, 1, 0);
        x.arm(4, 0, 0, 6, 1, 0);
        x.arm(0, 0, 0, 6, 1, 0);
        x.mend(0, 0, 0);
        x.mend(1, 1, 0);
        Due.is("one would not fit", x.dearest(1), -1);
        x.mend(2, 2, 1);
        Due.is("of one side, as they are on", x.dearest(1), -1);
        x.off(2);
        x.mend(2, 2, 0);
        Due.is("now they are", x.dearest(1), 2);
        x.off(1);
        x.mend(3, 1, 0);
        Due.is("of several the first: 0 and 2, 0 and 3", x.dearest(1), 2);
        x.dye(3, 1, 9);
        Due.is("the one that takes most off is told", x.dearest(1), 2);
        x.dye(3, 1, 0);
        x.dye(2, 0, 3);
        Due.is("0 and 3 then", x.dearest(1), 3);
    }

    private static void promise30SwapByOne() {
        DrawerOfArms x = new DrawerOfArms();
        for (int d = 0; d < 5; d++) {
            x.doll(5, 5, d == 4 ? 1 : 0, d == 4 ? 0 : 1, 1, 0, 0);
        }
        for (int i = 0; i < 8; i++) {
            x.arm(0, 0, 1, 5, 5, i == 5 ? 1 : 0);
        }
        x.mend(5, 3, 1);
        x.mend(6, 4, 1);
        // 1 (as new, wear 1) and 1 (wear 0 for 1) become 0 and 0
        Due.is("of higher numbers", x.dearest(1), 56);
        x.tell(3, 0, 2);
        Due.is("by one alone", x.dearest(1), 56);
        x.tell(4, 0, 2);
        Due.is("no less", x.dearest(1), -1);
    }

    /** All that are on count together: not the two that would be least unlike, but the change that takes most off. */
    private static void promise30SwapLeavesMostLike() {
        DrawerOfArms x = new DrawerOfArms();
        x.doll(5, 0, 0, 0, 1, 0, 0);
        x.doll(5, 1, 0, 0, 1, 0, 0);
        x.doll(5, 0, 0, 0, 1, 0, 0);
        x.doll(5, 9, 9, 0, 1, 0, 0);
        x.arm(0, 0, 0, 5, 1, 0);
        x.arm(0, 0, 0, 5, 0, 0);
        x.arm(0, 0, 1, 5, 9, 5);
        x.arm(0, 0, 1, 5, 0, 4);
        x.mend(0, 0, 0);
        x.mend(1, 1, 0);
        x.mend(2, 2, 1);
        x.mend(3, 3, 1);
        // left: 1 and 1 become 0 and 0; right: 14 and 14 become 4 and 4
        Due.is("the change that takes most off", x.dearest(1), 23);
        x.off(3);
        Due.is("the other one then", x.dearest(1), 1);
    }
}
