/** Promises 9 to 15, 34, 35, 37, 40 to 42: arms and dolls, mends, the image and how many there are. */
public final class ThingsTest {
    public static void main(String[] args) {
        promise9Arm();
        promise10Doll();
        promise11Dye();
        promise12Tell();
        promise13ArmOf();
        promise14DollOf();
        promise15On();
        promise34Mend();
        promise35Off();
        promise37Seed();
        promise40Image();
        promise41Restore();
        promise41RestoreShelves();
        promise42Status();
        Due.end("ThingsTest");
    }

    private static void promise9Arm() {
        DrawerOfArms x = new DrawerOfArms();
        Due.is("least", x.arm(0, 0, 0, 0, 0, 0), 0);
        Due.is("most", x.arm(6, 9, 1, 9, 9, 9), 1);
        Due.is("kind ahead of all", x.arm(7, 10, 2, 10, 10, 10), -1);
        Due.is("kind", x.arm(-1, 0, 0, 0, 0, 0), -1);
        int[][] wrong = {{10, 0, 0, 0, 0}, {0, 2, 0, 0, 0}, {0, 0, 10, 0, 0}, {0, 0, 0, 10, 0}, {0, 0, 0, 0, 10},
            {-1, 0, 0, 0, 0}, {0, -1, 0, 0, 0}, {0, 0, -1, 0, 0}, {0, 0, 0, -1, 0}, {0, 0, 0, 0, -1}};
        for (int[] w : wrong) {
            Due.is("a number", x.arm(0, w[0], w[1], w[2], w[3], w[4]), -6);
        }
        for (int i = 2; i < 8; i++) {
            Due.is("more", x.arm(i % 7, 1, 0, 2, 3, 4), i);
        }
        Due.is("wrong ahead of room", x.arm(0, 10, 0, 0, 0, 0), -6);
        Due.is("kind ahead of room", x.arm(9, 0, 0, 0, 0, 0), -1);
        Due.is("room", x.arm(0, 0, 0, 0, 0, 0), -7);
        Due.is("how many", x.status(0), 8);
        Due.is("in the drawer", x.status(2), 8);
        Due.is("counted", x.status(11) * 10000 + x.status(16) * 100 + x.status(17), 31101);
    }

    private static void promise10Doll() {
        DrawerOfArms x = new DrawerOfArms();
        Due.is("least", x.doll(0, 0, 0, 0, 1, 0, 0), 0);
        Due.is("most", x.doll(9, 9, 9, 2, 99, 9, 40), 1);
        int[][] wrong = {{10, 0, 0, 0, 1, 0, 0}, {0, 10, 0, 0, 1, 0, 0}, {0, 0, 10, 0, 1, 0, 0}, {0, 0, 0, 3, 1, 0, 0},
            {0, 0, 0, 0, 100, 0, 0}, {0, 0, 0, 0, 0, 0, 0}, {0, 0, 0, 0, 1, 10, 0}, {0, 0, 0, 0, 1, 0, 41},
            {-1, 0, 0, 0, 1, 0, 0}, {0, -1, 0, 0, 1, 0, 0}, {0, 0, -1, 0, 1, 0, 0}, {0, 0, 0, -1, 1, 0, 0},
            {0, 0, 0, 0, -1, 0, 0}, {0, 0, 0, 0, 1, -1, 0}, {0, 0, 0, 0, 1, 0, -1}};
        for (int[] w : wrong) {
            Due.is("a number", x.doll(w[0], w[1], w[2], w[3], w[4], w[5], w[6]), -6);
        }
        for (int d = 2; d < 5; d++) {
            Due.is("more", x.doll(1, 2, 3, 1, 4, 5, 6), d);
        }
        Due.is("wrong ahead of room", x.doll(0, 0, 0, 0, 0, 0, 0), -6);
        Due.is("room", x.doll(0, 0, 0, 0, 1, 0, 0), -7);
        Due.is("how many", x.status(1), 5);
        Due.is("counted", x.status(16) * 100 + x.status(17), 1601);
    }

    private static void promise11Dye() {
        DrawerOfArms x = new DrawerOfArms();
        x.arm(0, 0, 0, 0, 3, 4);
        Due.is("shade", x.dye(0, 0, 9), 3);
        Due.is("shade again", x.dye(0, 0, 0), 9);
        Due.is("wear", x.dye(0, 1, 9), 4);
        Due.is("wear again", x.dye(0, 1, 0), 9);
        Due.is("shade stands", x.armOf(0, 4), 0);
        Due.is("wear stands", x.armOf(0, 5), 0);
        Due.is("no arm, ahead of all", x.dye(1, 2, 10), -1);
        Due.is("no arm", x.dye(-1, 0, 0), -1);
        Due.is("what", x.dye(0, 2, 0), -6);
        Due.is("what", x.dye(0, -1, 0), -6);
        Due.is("v", x.dye(0, 0, 10), -6);
        Due.is("v", x.dye(0, 1, -1), -6);
        Due.is("counted", x.status(11) * 10 + x.status(16), 24);
    }

    private static void promise12Tell() {
        DrawerOfArms x = new DrawerOfArms();
        x.doll(1, 2, 3, 1, 5, 6, 7);
        int[] was = {1, 6, 7, 0};
        int[] most = {2, 9, 40, 99};
        for (int what = 0; what < 4; what++) {
            Due.is("what it was", x.tell(0, what, most[what]), was[what]);
            Due.is("the most", x.tell(0, what, 0), most[what]);
            Due.is("too much", x.tell(0, what, most[what] + 1), -6);
            Due.is("below", x.tell(0, what, -1), -6);
            Due.is("it stands", x.dollOf(0, new int[] {3, 5, 6, 7}[what]), 0);
        }
        Due.is("what", x.tell(0, 4, 0), -6);
        Due.is("what", x.tell(0, -1, 0), -6);
        Due.is("no doll, ahead of all", x.tell(1, 4, -1), -1);
        Due.is("no doll", x.tell(-1, 0, 0), -1);
        Due.is("counted", x.status(11) * 100 + x.status(16), 210);
    }

    private static void promise13ArmOf() {
        DrawerOfArms x = new DrawerOfArms();
        // a 4, side 1, size 5, shade 7, wear 3: the looks by kinds
        int[] shade = {7, 9, 7, 9, 7, 7, 9};
        int[] wear = {3, 3, 0, 4, 3, 5, 8};
        for (int kind = 0; kind < 7; kind++) {
            x.arm(kind, 4, 1, 5, 7, 3);
            int[] due = {kind, 4, 1, 5, 7, 3, shade[kind], wear[kind], 99};
            for (int what = 0; what < 9; what++) {
                Due.is("kind " + kind + ", what " + what, x.armOf(kind, what), due[what]);
            }
        }
        DrawerOfArms y = new DrawerOfArms();
        y.arm(3, 0, 0, 0, 0, 9);
        Due.is("robbed is 9 at most", y.armOf(0, 7), 9);
        y.dye(0, 1, 8);
        Due.is("robbed, 8", y.armOf(0, 7), 9);
        x.arm(6, 2, 0, 0, 6, 9);
        Due.is("stained below 9", x.armOf(7, 6), 8);
        Due.is("glued is 9 at most", x.armOf(7, 7), 9);
        x.doll(5, 0, 0, 0, 1, 0, 0);
        x.doll(5, 0, 0, 0, 1, 0, 0);
        x.mend(0, 1, 1);
        Due.is("where it is", x.armOf(0, 8), 11);
        Due.is("no arm", x.armOf(8, 0), -5);
        Due.is("no arm", x.armOf(-1, 0), -5);
        Due.is("what", x.armOf(0, 9), -5);
        Due.is("what", x.armOf(0, -1), -5);
        Due.is("counted", x.status(15), 4);
    }

    private static void promise14DollOf() {
        DrawerOfArms x = new DrawerOfArms();
        x.doll(1, 2, 3, 2, 5, 6, 7);
        int[] due = {1, 2, 3, 2, 5, 6, 7, 0, 1};
        for (int what = 0; what < 9; what++) {
            Due.is("what " + what, x.dollOf(0, what), due[what]);
        }
        // unlike of both together: twice 1 (size) + 3 (shade) + 1 (wear) = 6; twice 0 + 1 + 0 = 1
        x.tell(0, 0, 0);
        x.arm(0, 0, 0, 2, 5, 4);
        x.arm(0, 0, 1, 1, 3, 3);
        x.mend(0, 0, 0);
        x.mend(1, 0, 1);
        Due.is("7 is borne", x.dollOf(0, 8), 1);
        x.tell(0, 2, 6);
        Due.is("7 is not borne by 6", x.dollOf(0, 8), 0);
        x.off(1);
        Due.is("6 is", x.dollOf(0, 8), 1);
        x.tell(0, 3, 42);
        Due.is("days", x.dollOf(0, 7), 42);
        Due.is("no doll", x.dollOf(1, 0), -5);
        Due.is("no doll", x.dollOf(-1, 0), -5);
        Due.is("what", x.dollOf(0, 9), -5);
        Due.is("what", x.dollOf(0, -1), -5);
        Due.is("counted", x.status(15), 4);
    }

    private static void promise15On() {
        DrawerOfArms x = new DrawerOfArms();
        x.doll(1, 0, 0, 2, 5, 6, 7);
        x.arm(4, 0, 0, 1, 0, 0);
        Due.is("none", x.on(0, 0), -1);
        x.mend(0, 0, 1);
        Due.is("right", x.on(0, 1), 0);
        Due.is("left is empty", x.on(0, 0), -1);
        Due.is("no doll ahead of the side", x.on(1, 2), -11);
        Due.is("no doll", x.on(-1, 0), -11);
        Due.is("side", x.on(0, 2), -16);
        Due.is("side", x.on(0, -1), -16);
        Due.is("counted", x.status(11) * 10 + x.status(16), 22);
    }

    private static void promise34Mend() {
        DrawerOfArms x = new DrawerOfArms();
        x.doll(4, 0, 0, 2, 30, 0, 0);
        x.doll(6, 0, 0, 2, 7, 0, 0);
        x.arm(0, 0, 0, 5, 0, 0);
        x.arm(0, 0, 0, 5, 0, 0);
        x.arm(4, 0, 0, 5, 0, 0);
        x.arm(0, 0, 0, 6, 0, 0);
        Due.is("no arm, ahead of the side", x.mend(4, 0, 2), -1);
        Due.is("no doll", x.mend(0, 2, 0), -1);
        Due.is("no doll", x.mend(0, -1, 0), -1);
        Due.is("side", x.mend(0, 0, 2), -6);
        Due.is("side", x.mend(0, 0, -1), -6);
        Due.is("of the other side", x.mend(0, 0, 1), -6);
        Due.is("of another size", x.mend(3, 0, 0), -6);
        Due.is("spent", x.mend(0, 0, 0), 30);
        Due.is("not in the drawer", x.mend(0, 1, 0), -6);
        Due.is("not empty", x.mend(1, 0, 0), -6);
        Due.is("spent more", x.mend(1, 1, 0), 37);
        Due.is("doubled on the other side", x.mend(2, 1, 1), 44);
        Due.is("mended", x.status(4), 3);
        Due.is("spent", x.status(5), 44);
        Due.is("counted", x.status(11) * 10 + x.status(16), 36);
    }

    private static void promise35Off() {
        DrawerOfArms x = new DrawerOfArms();
        for (int d = 0; d < 5; d++) {
            x.doll(4, 0, 0, 2, 30, 0, 0);
        }
        x.arm(0, 0, 1, 4, 0, 0);
        x.mend(0, 4, 1);
        Due.is("where it was", x.off(0), 41);
        Due.is("it is off", x.on(4, 1), -1);
        Due.is("in the drawer", x.armOf(0, 8), 99);
        Due.is("mended stays", x.status(4), 1);
        Due.is("spent stays", x.status(5), 30);
        Due.is("it is in the drawer", x.off(0), -6);
        Due.is("no arm", x.off(1), -1);
        Due.is("no arm", x.off(-1), -1);
        Due.is("counted", x.status(11) * 10 + x.status(16), 21);
        Due.is("it may come on again", x.mend(0, 4, 1), 60);
    }

    private static void promise37Seed() {
        DrawerOfArms x = new DrawerOfArms();
        Due.is("1 at first", x.seed(Integer.MIN_VALUE), 1);
        Due.is("any number", x.seed(7), Integer.MIN_VALUE);
        Due.is("status", x.status(7), 7);
    }

    private static void promise40Image() {
        DrawerOfArms x = new DrawerOfArms();
        Due.is("of nothing", x.image(), 0);
        x.arm(0, 0, 0, 4, 0, 0);
        x.arm(0, 0, 0, 4, 0, 0);
        Due.is("how many arms", x.image(), 2);
        x.arm(0, 0, 0, 4, 0, 0);
        Due.is("back to the later one", x.restore(), 2);
    }

    private static void promise41Restore() {
        DrawerOfArms x = new DrawerOfArms();
        Due.is("there is none", x.restore(), -6);
        x.arm(1, 2, 0, 4, 3, 2);
        x.doll(4, 5, 6, 0, 11, 3, 20);
        x.mend(0, 0, 0);
        x.days(2);
        int[] before = new int[30];
        tellAll(x, before);
        x.image();
        x.off(0);
        x.dye(0, 0, 9);
        x.dye(0, 1, 9);
        x.tell(0, 0, 2);
        x.tell(0, 1, 9);
        x.tell(0, 2, 0);
        x.arm(2, 0, 0, 4, 0, 0);
        x.doll(4, 5, 6, 0, 11, 3, 20);
        x.days(60);
        x.seed(99);
        x.act(0, 0, 5);
        Due.shop(x, "arm x", -6, 4);
        Due.is("restore", x.restore(), 1);
        int[] after = new int[30];
        tellAll(x, after);
        for (int i = 0; i < 30; i++) {
            Due.is("as the image has it, " + i, after[i], before[i]);
        }
        Due.is("the trace stays", x.trace(0), 20);
        Due.is("bodies stay", x.status(8), 2);
        Due.is("the fault stays", x.fault(), 4);
        Due.is("refusals stay", x.status(16), 2);
        Due.is("rows stay", x.holds(7), 100);
        x.off(0);
        Due.is("the image stays", x.restore(), 1);
        Due.is("once more", x.on(0, 0), 0);
        Due.is("new ones get the next numbers", x.arm(5, 1, 1, 1, 1, 1), 1);
        Due.is("and are new", x.armOf(1, 0), 5);
    }

    private static void tellAll(DrawerOfArms x, int[] into) {
        for (int what = 0; what < 9; what++) {
            into[what] = x.armOf(0, what);
            into[9 + what] = x.dollOf(0, what);
        }
        for (int what = 0; what < 8; what++) {
            into[18 + what] = x.status(what);
        }
    }

    private static void promise41RestoreShelves() {
        DrawerOfArms x = new DrawerOfArms();
        x.arm(0, 0, 0, 4, 0, 0);
        x.image();
        x.arm(0, 0, 0, 4, 0, 0);
        x.show(0, 0);
        x.show(1, 1);
        x.show(7, 1);
        x.row(2, 3, 4);
        x.set(2, 3, 77);
        Due.is("restore", x.restore(), 1);
        Due.is("of that number", x.holds(0), 0);
        Due.is("there is none of that", x.holds(1), -1);
        Due.is("nor in the last shelf", x.holds(7), -1);
        DrawerOfArms y = new DrawerOfArms();
        y.image();
        y.arm(0, 0, 0, 4, 0, 0);
        y.show(0, 0);
        Due.is("back to no arms", y.restore(), 0);
        Due.is("nor in the first shelf", y.holds(0), -1);
        Due.is("nothing is said there", x.says(1, 0), -3);
        Due.is("rows stay", x.element(2, 3), 77);
        x.arm(0, 0, 0, 4, 0, 0);
        Due.is("it stays empty", x.holds(1), -1);
    }

    private static void promise42Status() {
        DrawerOfArms x = new DrawerOfArms();
        x.doll(4, 0, 0, 2, 30, 0, 0);
        x.doll(4, 0, 0, 2, 8, 0, 0);
        x.arm(0, 0, 0, 4, 0, 0);
        x.arm(0, 0, 1, 4, 0, 0);
        x.arm(0, 0, 1, 4, 0, 0);
        x.mend(0, 0, 0);
        x.mend(1, 0, 1);
        x.mend(2, 1, 1);
        x.off(2);
        x.seed(5);
        x.act(0, 2, 1);
        int[] due = {3, 2, 1, 1, 3, 68, 0, 5, 4, -1, -1};
        for (int what = 0; what < due.length; what++) {
            Due.is("status(" + what + ")", x.status(what), due[what]);
        }
        x.off(0);
        Due.is("the right one alone isn't both", x.status(3), 0);
        x.days(1);
        Due.is("today", x.status(6), 1);
        for (int r = 11; r <= 17; r++) {
            Due.is("no refusals", x.status(r), 0);
        }
        int[] others = {-1, 9, 10, 18, 100, Integer.MAX_VALUE, Integer.MIN_VALUE, -2147483638};
        for (int what : others) {
            Due.is("another what", x.status(what), -1);
        }
        Due.is("asking is never refused", x.status(15), 0);
        x.mend(9, 9, 9);
        x.given(-1);
        x.judge(1, 1);
        Due.is("counted apart: -1", x.status(11), 1);
        Due.is("counted apart: -15 as -5", x.status(15), 1);
        Due.is("counted apart: -13 as -3", x.status(13), 1);
    }
}
