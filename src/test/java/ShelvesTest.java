/** Promises 1 to 8: a new object, and what shelves hold. */
public final class ShelvesTest {
    public static void main(String[] args) {
        promise1NewObject();
        promise2Row();
        promise3Set();
        promise4Copy();
        promise4CopyRefusals();
        promise5Element();
        promise6Show();
        promise7Holds();
        promise8Says();
        promise8SaysRefusals();
        Due.end("ShelvesTest");
    }

    private static void promise1NewObject() {
        DrawerOfArms x = new DrawerOfArms();
        Due.is("NONE", DrawerOfArms.NONE, -1);
        Due.is("seed", x.status(7), 1);
        for (int what = 0; what <= 17; what++) {
            int due = what == 7 ? 1 : what == 9 || what == 10 ? -1 : 0;
            Due.is("new: status(" + what + ")", x.status(what), due);
        }
        for (int s = 0; s < 8; s++) {
            Due.is("new: holds", x.holds(s), -1);
        }
        Due.is("new: fault", x.fault(), -1);
        Due.is("new: trace", x.trace(0), -1);
        Due.is("new: armOf", x.armOf(0, 0), -5);
        Due.is("new: dollOf", x.dollOf(0, 0), -5);
    }

    private static void promise2Row() {
        DrawerOfArms x = new DrawerOfArms();
        Due.is("row", x.row(0, 0, 160), 1);
        Due.is("last element", x.set(0, 159, 7), 1);
        Due.is("first element", x.set(0, 0, 7), 1);
        Due.is("row made anew", x.row(0, 0, 160), 1);
        Due.is("it is 0 at first", x.element(0, 159), 0);
        Due.is("it is 0 at first", x.element(0, 0), 0);
        Due.is("shorter", x.row(0, 3, 2), 1);
        Due.is("no third", x.set(0, 2, 1), -5);
        Due.is("empty row", x.row(7, 3, 0), 1);
        Due.is("it is held", x.holds(7), 103);
        Due.is("shelf ahead of all", x.row(8, 9, -1), -1);
        Due.is("shelf", x.row(-1, 0, 1), -1);
        Due.is("below ahead of sort", x.row(1, 4, -1), -4);
        Due.is("sort ahead of room", x.row(1, 4, 161), -6);
        Due.is("sort", x.row(1, -1, 1), -6);
        Due.is("room", x.row(1, 0, 161), -7);
        Due.is("refused rows change nothing", x.holds(1), -1);
        Due.is("counted -1", x.status(11), 2);
        Due.is("counted -4", x.status(14), 1);
        Due.is("counted -6", x.status(16), 2);
        Due.is("counted -7", x.status(17), 1);
        x.arm(0, 0, 0, 0, 0, 0);
        x.show(2, 0);
        Due.is("row where an arm was", x.row(2, 1, 3), 1);
        Due.is("row there now", x.holds(2), 101);
    }

    private static void promise3Set() {
        DrawerOfArms x = new DrawerOfArms();
        for (int sort = 0; sort < 4; sort++) {
            x.row(sort, sort, 3);
        }
        long v = 0x123456789ABCDEFL;
        long[] lowest = {(byte) v, (short) v, (int) v, v};
        long[] below = {(byte) 200, (short) 40000, (int) 3000000000L, Long.MIN_VALUE};
        long[] given = {200, 40000, 3000000000L, Long.MIN_VALUE};
        for (int sort = 0; sort < 4; sort++) {
            Due.is("set", x.set(sort, 0, v), 1);
            Due.is("lowest bits", x.element(sort, 0), lowest[sort]);
            Due.is("set", x.set(sort, 2, given[sort]), 1);
            Due.is("with its sign", x.element(sort, 2), below[sort]);
            Due.is("the one between is not touched", x.element(sort, 1), 0);
        }
        x.arm(0, 0, 0, 0, 0, 0);
        x.show(5, 0);
        Due.is("no shelf", x.set(8, 0, 0), -1);
        Due.is("an arm, ahead of the element", x.set(5, -1, 0), -2);
        Due.is("nothing, ahead of the element", x.set(6, -1, 0), -3);
        Due.is("no element -1", x.set(0, -1, 0), -5);
        Due.is("no element 3", x.set(0, 3, 0), -5);
        Due.is("counted", x.status(15), 2);
    }

    private static void promise4Copy() {
        DrawerOfArms x = new DrawerOfArms();
        x.row(0, 2, 6);
        x.row(1, 2, 4);
        for (int i = 0; i < 6; i++) {
            x.set(0, i, 10 + i);
        }
        Due.is("copy", x.copy(0, 1, 2, 1, 3), 1);
        isRow(x, 1, 0, 12, 13, 14);
        isRow(x, 0, 10, 11, 12, 13, 14, 15);
        Due.is("forwards over itself", x.copy(0, 0, 0, 1, 5), 1);
        isRow(x, 0, 10, 10, 11, 12, 13, 14);
        Due.is("backwards over itself", x.copy(0, 0, 2, 0, 4), 1);
        isRow(x, 0, 11, 12, 13, 14, 13, 14);
        Due.is("none, at the ends", x.copy(0, 1, 6, 4, 0), 1);
        Due.is("all of it", x.copy(1, 0, 0, 2, 4), 1);
        isRow(x, 0, 11, 12, 0, 12, 13, 14);
    }

    private static void promise4CopyRefusals() {
        DrawerOfArms x = new DrawerOfArms();
        x.arm(0, 0, 0, 0, 0, 0);
        x.row(0, 0, 3);
        x.row(1, 1, 3);
        x.row(2, 0, 2);
        x.show(3, 0);
        Due.is("no shelf p", x.copy(8, 3, 0, 0, -1), -1);
        Due.is("no shelf q", x.copy(3, -1, 0, 0, -1), -1);
        Due.is("p an arm", x.copy(3, 0, 0, 0, -1), -2);
        Due.is("q an arm", x.copy(0, 3, 0, 0, -1), -2);
        Due.is("p an arm, q nothing", x.copy(3, 4, 0, 0, -1), -2);
        Due.is("p nothing, q an arm", x.copy(4, 3, 0, 0, -1), -2);
        Due.is("two sorts", x.copy(0, 1, 0, 0, -1), -2);
        Due.is("p nothing", x.copy(4, 0, 0, 0, -1), -3);
        Due.is("q nothing", x.copy(0, 4, 0, 0, -1), -3);
        Due.is("below, ahead of the places", x.copy(0, 2, -1, -1, -1), -4);
        Due.is("i below 0", x.copy(0, 2, -1, 0, 0), -5);
        Due.is("j below 0", x.copy(0, 2, 0, -1, 0), -5);
        Due.is("end in p", x.copy(0, 2, 2, 0, 2), -5);
        Due.is("end in q", x.copy(0, 2, 0, 1, 2), -5);
        Due.is("none, beyond p", x.copy(0, 2, 4, 0, 0), -5);
        Due.is("none, beyond q", x.copy(0, 2, 0, 3, 0), -5);
        Due.is("a sum that wraps", x.copy(0, 2, Integer.MAX_VALUE, 0, Integer.MAX_VALUE), -5);
        Due.is("a large n", x.copy(0, 2, 0, 0, Integer.MAX_VALUE), -5);
        Due.is("counted -1", x.status(11), 2);
        Due.is("counted -2", x.status(12), 5);
        Due.is("counted -3", x.status(13), 2);
        Due.is("counted -4", x.status(14), 1);
        Due.is("counted -5", x.status(15), 8);
    }

    private static void promise5Element() {
        DrawerOfArms x = new DrawerOfArms();
        x.arm(0, 0, 0, 0, 0, 0);
        x.row(0, 3, 2);
        x.set(0, 1, Long.MAX_VALUE);
        x.row(1, 3, 2);
        x.set(1, 0, 5);
        x.show(1, 0);
        Due.is("whole longs", x.element(0, 1), Long.MAX_VALUE);
        Due.is("none behind", x.element(0, 2), 0);
        Due.is("none ahead", x.element(0, -1), 0);
        Due.is("no shelf", x.element(8, 0), 0);
        Due.is("no shelf", x.element(-1, 0), 0);
        Due.is("an arm", x.element(1, 0), 0);
        Due.is("nothing", x.element(2, 0), 0);
        for (int r = 11; r <= 17; r++) {
            Due.is("nothing is refused", x.status(r), 0);
        }
    }

    private static void promise6Show() {
        DrawerOfArms x = new DrawerOfArms();
        x.arm(0, 0, 0, 0, 0, 0);
        x.arm(1, 0, 0, 0, 0, 0);
        Due.is("an arm", x.show(0, 1), 1);
        Due.is("it is held", x.holds(0), 1);
        Due.is("nothing", x.show(0, -1), 0);
        Due.is("nothing held", x.holds(0), -1);
        x.row(1, 2, 4);
        Due.is("an arm for a row", x.show(1, 0), 1);
        Due.is("no element is left", x.set(1, 0, 1), -2);
        Due.is("nothing once more", x.show(1, -1), 0);
        Due.is("no such shelf", x.show(8, -1), -1);
        Due.is("no such shelf", x.show(-1, 0), -1);
        Due.is("no such arm", x.show(2, 2), -1);
        Due.is("no such arm", x.show(2, -2), -1);
        Due.is("counted", x.status(11), 4);
    }

    private static void promise7Holds() {
        DrawerOfArms x = new DrawerOfArms();
        x.arm(0, 0, 0, 0, 0, 0);
        for (int sort = 0; sort < 4; sort++) {
            x.row(sort, sort, 1);
            Due.is("a row's sort", x.holds(sort), 100 + sort);
        }
        x.show(7, 0);
        Due.is("arm 0", x.holds(7), 0);
        Due.is("nothing", x.holds(6), -1);
        Due.is("no shelf", x.holds(8), -1);
        Due.is("no shelf", x.holds(-1), -1);
        Due.is("nothing is refused", x.status(11), 0);
    }

    /** By kinds of the arm (rows) and kinds that it is taken for; -2 for another kind. */
    private static void promise8Says() {
        // size 4, shade 3, wear 2, side 1, a 5: shade as seen 8 if stained; wear 3 robbed, 8 glued, 4 old
        int[][] due = {
            {4, -2, -2, -2, -2, -2, -2},
            {4, 8, -2, -2, -2, -2, -2},
            {4, -2, 0, -2, -2, -2, -2},
            {4, 8, -2, 8, -2, -2, -2},
            {4, -2, -2, -2, 1, -2, -2},
            {4, -2, 4, -2, -2, 4, -2},
            {4, 8, -2, 8, -2, -2, 8},
        };
        DrawerOfArms x = new DrawerOfArms();
        for (int kind = 0; kind < 7; kind++) {
            x.arm(kind, 5, 1, 4, 3, 2);
            x.show(3, kind);
            for (int taken = 0; taken < 7; taken++) {
                Due.is("kind " + kind + " taken for " + taken, x.says(3, taken), due[kind][taken]);
            }
        }
    }

    private static void promise8SaysRefusals() {
        DrawerOfArms x = new DrawerOfArms();
        x.row(0, 0, 0);
        Due.is("no kind ahead of a row", x.says(0, 7), -1);
        Due.is("no kind", x.says(0, -1), -1);
        Due.is("no shelf", x.says(8, 0), -1);
        Due.is("a row", x.says(0, 0), -2);
        Due.is("nothing", x.says(1, 0), -3);
        Due.is("counted", x.status(11) * 100 + x.status(12) * 10 + x.status(13), 311);
    }

    private static void isRow(DrawerOfArms x, int s, int... due) {
        for (int i = 0; i < due.length; i++) {
            Due.is("element " + i + " of " + s, x.element(s, i), due[i]);
        }
    }
}
