/** Promises 38 and 39: moves of arms, and the trace of the bodies that ran. */
public final class MovesTest {
    /** The shop has one arm of each kind, a 3 more than its number (its number is its kind). */
    public static void main(String[] args) {
        DrawerOfArms x = new DrawerOfArms();
        for (int kind = 0; kind < 7; kind++) {
            x.arm(kind, kind + 3, 0, 0, 0, 0);
        }
        // bends(10)
        isAct(x, 0, 0, 10, 10, 10);
        isAct(x, 1, 0, 10, 10 + 1 + 4, 20, 10);
        isAct(x, 2, 0, 10, 12, 10);
        isAct(x, 3, 0, 10, 11 + 3 + 6, 40, 20, 10);
        isAct(x, 4, 0, 10, 10 + 4 - 4, 51, 10);
        isAct(x, 5, 0, 10, 15, 10);
        isAct(x, 6, 0, 10, (11 + 6 + 9) * 2, 70, 40, 20, 10);
        // waves(10)
        isAct(x, 0, 1, 10, 20, 11, 10);
        isAct(x, 1, 1, 10, 30, 11, 20, 10);
        isAct(x, 2, 1, 10, 12 * 2 * 3, 30, 11, 10);
        isAct(x, 3, 1, 10, 40, 11, 40, 20, 10);
        isAct(x, 4, 1, 10, 20, 11, 51, 10);
        isAct(x, 5, 1, 10, 15 * 2 * 3, 30, 11, 10);
        isAct(x, 6, 1, 10, (1 + 1 + 6 + 9) * 2 * 2, 71, 11, 70, 40, 20, 10);
        // drops(10)
        isAct(x, 0, 2, 10, 20 ^ 7, 12, 11, 10, 10);
        isAct(x, 1, 2, 10, 30 ^ 11, 12, 11, 20, 10, 20, 10);
        isAct(x, 2, 2, 10, 72 ^ 7, 12, 30, 11, 10, 10);
        isAct(x, 3, 2, 10, 40 ^ 14, 12, 11, 40, 20, 10, 40, 20, 10);
        isAct(x, 4, 2, 10, -(20 ^ 3), 50, 12, 11, 51, 10, 51, 10);
        isAct(x, 5, 2, 10, 90 ^ 7 ^ 5, 60, 12, 30, 11, 10, 10);
        isAct(x, 6, 2, 10, 68 ^ 34, 12, 71, 11, 70, 40, 20, 10, 70, 40, 20, 10);
        // wrapping
        isAct(x, 1, 0, Integer.MAX_VALUE, Integer.MIN_VALUE + 4, 20, 10);
        isAct(x, 2, 1, Integer.MAX_VALUE, (Integer.MAX_VALUE + 2) * 6, 30, 11, 10);
        isAct(x, 4, 2, Integer.MIN_VALUE, -(0 ^ Integer.MAX_VALUE - 6), 50, 12, 11, 51, 10, 51, 10);
        // the number is not the kind
        DrawerOfArms y = new DrawerOfArms();
        y.arm(0, 0, 0, 0, 0, 0);
        y.arm(6, 2, 0, 0, 0, 0);
        isAct(y, 1, 0, 5, (6 + 1 + 2) * 2, 70, 40, 20, 10);
        promise38Others(x);
        promise39Others(x);
        Due.end("MovesTest");
    }

    private static void isAct(DrawerOfArms x, int arm, int move, int with, int due, int... bodies) {
        String call = "act(" + arm + ", " + move + ", " + with + ")";
        Due.is(call, x.act(arm, move, with), due);
        Due.is(call + " bodies", x.status(8), bodies.length);
        for (int i = 0; i < bodies.length; i++) {
            Due.is(call + " trace(" + i + ")", x.trace(i), bodies[i]);
        }
        Due.is(call + " trace's end", x.trace(bodies.length), -1);
    }

    private static void promise38Others(DrawerOfArms x) {
        int[][] none = {{7, 0}, {-1, 0}, {0, 3}, {0, -1}, {Integer.MIN_VALUE, Integer.MAX_VALUE}};
        for (int[] n : none) {
            x.act(0, 2, 1);
            Due.is("no such arm, move", x.act(n[0], n[1], 5), 0);
            Due.is("no trace then", x.trace(0), -1);
            Due.is("no bodies then", x.status(8), 0);
        }
        Due.is("nothing is refused", x.status(11) + x.status(15) + x.status(16), 0);
    }

    private static void promise39Others(DrawerOfArms x) {
        x.act(6, 2, 10);
        Due.is("the last", x.trace(10), 10);
        int[] none = {-1, 11, 20, 21, Integer.MAX_VALUE, Integer.MIN_VALUE};
        for (int i : none) {
            Due.is("none such", x.trace(i), -1);
        }
        x.mend(0, 0, 0);
        Due.is("it stays until the next act", x.trace(0), 12);
    }
}
