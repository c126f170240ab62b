/** Promises 31 to 33 and 36: told days, in thought and in truth, and days by draws. */
public final class DaysTest {
    public static void main(String[] args) {
        promise31Judge();
        promise31JudgeStrangeTwos();
        promise31JudgeRefusals();
        promise32Behind();
        promise32BehindRefusals();
        promise33Done();
        promise33DoneRefusals();
        promise36Days();
        promise36DaysByHand();
        promise36Refusals();
        Due.end("DaysTest");
    }

    /** Dolls 0 and 1 of size 5, 2 of size 9; arms 0 and 1 left, 2 and 3 right, 4 doubled, all of size 5. */
    private static DrawerOfArms shop() {
        DrawerOfArms x = new DrawerOfArms();
        x.doll(5, 5, 0, 0, 10, 0, 3);
        x.doll(5, 5, 0, 0, 20, 0, 3);
        x.doll(9, 5, 0, 0, 40, 0, 3);
        for (int i = 0; i < 5; i++) {
            x.arm(i == 4 ? 4 : 0, 0, i / 2 % 2, 5, 4, 0);
        }
        return x;
    }

    private static void promise31Judge() {
        DrawerOfArms x = shop();
        Due.fill(x, 0, 0, 0, 2, 1, 4, 11, 0, 10);
        Due.is("none of none", x.judge(0, 0), -1);
        Due.is("three can be", x.judge(0, 3), -1);
        Due.is("0 isn't in the drawer by then", x.judge(0, 4), 3);
        Due.fill(x, 0, 0, 0, 1, 0);
        Due.is("not empty by then", x.judge(0, 2), 1);
        Due.fill(x, 0, 0, 10, 1, 20, 0, 10);
        Due.is("it doesn't fit; the first", x.judge(0, 3), 1);
        Due.fill(x, 0, 2, 0);
        Due.is("of the other side", x.judge(0, 1), 0);
        x.mend(0, 0, 0);
        Due.fill(x, 0, 0, 10);
        Due.is("on a doll already", x.judge(0, 1), 0);
        Due.fill(x, 0, 1, 0);
        Due.is("not empty already", x.judge(0, 1), 0);
        Due.is("nothing came of it", x.status(2), 4);
    }

    private static void promise31JudgeStrangeTwos() {
        int[][] twos = {{5, 0}, {-1, 0}, {0, 2}, {0, 9}, {0, 30}, {0, -1}, {0, -10}, {0, 99},
            {Integer.MAX_VALUE, 0}, {0, Integer.MIN_VALUE}, {0, Integer.MAX_VALUE}};
        for (int[] two : twos) {
            DrawerOfArms x = shop();
            Due.fill(x, 0, 1, 10, two[0], two[1]);
            Due.is("can't be: " + two[0] + ", " + two[1], x.judge(0, 2), 1);
            Due.is("so -6", x.done(0, 2), -6);
        }
        DrawerOfArms x = shop();
        x.row(0, 3, 2);
        x.set(0, 0, 5L << 32 | 1);
        x.set(0, 1, 1L << 40);
        Due.is("of longs the lowest 32 bits", x.judge(0, 1), -1);
    }

    private static void promise31JudgeRefusals() {
        DrawerOfArms x = shop();
        x.show(1, 0);
        x.row(2, 2, 41);
        x.row(3, 2, 42);
        Due.is("no shelf", x.judge(8, -1), -11);
        Due.is("no shelf", x.judge(-1, 0), -11);
        Due.is("an arm", x.judge(1, -1), -12);
        Due.is("nothing", x.judge(0, -1), -13);
        Due.is("below", x.judge(2, -1), -14);
        Due.is("fewer elements, ahead of 21", x.judge(2, 21), -15);
        Due.is("twice what wraps", x.judge(2, 1 << 31 >>> 1), -15);
        Due.is("the most", x.judge(2, Integer.MAX_VALUE), -15);
        Due.is("above 20", x.judge(3, 21), -16);
        Due.is("20 is not", x.judge(3, 20), 1);
        int[] due = {2, 1, 1, 1, 3, 1, 0};
        for (int r = 0; r < 7; r++) {
            Due.is("counted as -" + (r + 1), x.status(11 + r), due[r]);
        }
    }

    private static void promise32Behind() {
        DrawerOfArms x = shop();
        x.mend(0, 0, 0);
        Due.fill(x, 0, 2, 1, 1, 10, 4, 11);
        x.dye(4, 0, 1);
        x.dye(2, 1, 3);
        Due.is("now: with both", x.behind(0, 0, 0), 0);
        Due.is("now: unlike", x.behind(0, 0, 1), 1);
        Due.is("now: her", x.behind(0, 0, 2), 3);
        Due.is("with both", x.behind(0, 1, 0), 1);
        Due.is("unlike", x.behind(0, 1, 1), 1 + 4);
        Due.is("her", x.behind(0, 1, 2), 2);
        Due.is("with both", x.behind(0, 3, 0), 2);
        Due.is("unlike", x.behind(0, 3, 1), 1 + 4 + 1 + 4);
        Due.is("her", x.behind(0, 3, 2), 1);
        Due.is("nothing came of it", x.status(2), 4);
        Due.is("nor of mends", x.status(4), 1);
        Due.is("nor of time", x.status(5), 10);
    }

    private static void promise32BehindRefusals() {
        DrawerOfArms x = shop();
        x.show(1, 0);
        x.row(2, 2, 3);
        x.row(3, 2, 42);
        Due.is("no shelf", x.behind(8, -1, 3), -1);
        Due.is("an arm", x.behind(1, -1, 3), -2);
        Due.is("nothing", x.behind(0, -1, 3), -3);
        Due.is("below, ahead of what", x.behind(2, -1, 3), -4);
        Due.is("fewer elements", x.behind(2, 2, 0), -5);
        Due.is("what", x.behind(2, 1, 3), -5);
        Due.is("what", x.behind(2, 1, -1), -5);
        Due.is("what, ahead of above 20", x.behind(3, 21, 3), -5);
        Due.is("above 20", x.behind(3, 21, 2), -6);
        Due.is("wrong", x.behind(3, 2, 0), -6);
        Due.is("what, ahead of wrong", x.behind(3, 2, 3), -5);
        int[] due = {1, 1, 1, 1, 5, 2, 0};
        for (int r = 0; r < 7; r++) {
            Due.is("counted as -" + (r + 1), x.status(11 + r), due[r]);
        }
    }

    private static void promise33Done() {
        DrawerOfArms x = shop();
        x.mend(0, 0, 0);
        Due.fill(x, 0, 2, 1, 1, 10, 4, 11, 3, 0);
        Due.is("none: mended", x.done(0, 0), 1);
        Due.is("one is wrong: nothing comes to pass", x.done(0, 4), -6);
        Due.is("nothing did", x.status(2), 4);
        Due.is("mended", x.done(0, 3), 4);
        Due.is("spent", x.status(5), 10 + 10 + 20 + 20);
        Due.is("mended", x.status(4), 4);
        Due.is("on", x.on(0, 1) * 100 + x.on(1, 0) * 10 + x.on(1, 1), 214);
        Due.is("with both", x.status(3), 2);
        Due.is("not again", x.done(0, 1), -6);
        Due.is("no day passes", x.status(6), 0);
    }

    private static void promise33DoneRefusals() {
        DrawerOfArms x = shop();
        x.show(1, 0);
        x.row(2, 2, 3);
        x.row(3, 2, 42);
        Due.is("no shelf", x.done(8, -1), -1);
        Due.is("an arm", x.done(1, -1), -2);
        Due.is("nothing", x.done(0, -1), -3);
        Due.is("below", x.done(2, -1), -4);
        Due.is("fewer elements", x.done(2, 2), -5);
        Due.is("fewer elements, ahead of 21", x.done(2, 21), -5);
        Due.is("above 20", x.done(3, 21), -6);
        Due.is("wrong", x.done(3, 2), -6);
        int[] due = {1, 1, 1, 1, 2, 2, 0};
        for (int r = 0; r < 7; r++) {
            Due.is("counted as -" + (r + 1), x.status(11 + r), due[r]);
        }
    }

    private static int draw(int[] seed, int n) {
        seed[0] = (int) (seed[0] * 1103515245L + 12345);
        return (seed[0] >> 16 & 0xFFFF) % n;
    }

    private static void promise36Days() {
        DrawerOfArms x = shop();
        x.seed(-77);
        int[] seed = {-77};
        int[] where = {99, 99, 99, 99, 99};
        int mended = 0;
        int spent = 0;
        for (int day = 1; day <= 120; day++) {
            int arm = draw(seed, 5);
            int doll = draw(seed, 3);
            int side = draw(seed, 2);
            boolean empty = true;
            for (int w : where) {
                empty &= w != 10 * doll + side;
            }
            if (where[arm] == 99 && empty && doll < 2 && (arm == 4 || arm / 2 == side)) {
                where[arm] = 10 * doll + side;
                mended++;
                spent += doll == 0 ? 10 : 20;
            } else if (where[arm] == 10 * doll + side) {
                where[arm] = 99;
            }
            Due.is("days(1)", x.days(1), mended);
            Due.is("seed", x.status(7), seed[0]);
            Due.is("where", x.armOf(arm, 8), where[arm]);
            Due.is("spent", x.status(5), spent);
            Due.is("days", x.dollOf(day % 3, 7), Math.min(99, day));
        }
        Due.is("today", x.status(6), 120);
        DrawerOfArms y = shop();
        y.seed(-77);
        Due.is("sixty at once", y.days(60) >= 0 ? 1 : 0, 1);
        Due.is("and sixty", y.days(60), mended);
        for (int i = 0; i < 5; i++) {
            Due.is("alike", y.armOf(i, 8), where[i]);
        }
    }

    /** From 1: 1103527590 (16838), 2524885223 (38526), 662824084 (10113). */
    private static void promise36DaysByHand() {
        DrawerOfArms x = new DrawerOfArms();
        for (int i = 0; i < 3; i++) {
            x.arm(0, 0, 1, 5, 0, 0);
        }
        for (int d = 0; d < 5; d++) {
            x.doll(5, 0, 0, 2, 1 + d, 0, 0);
        }
        // arm 16838 % 3 = 2, doll 38526 % 5 = 1 (no sign is drawn), side 10113 % 2 = 1
        Due.is("one mend", x.days(1), 1);
        Due.is("seed", x.status(7), 662824084);
        Due.is("there", x.armOf(2, 8), 11);
        Due.is("its minutes", x.status(5), 2);
        x.seed(1);
        Due.is("it comes off", x.days(1), 1);
        Due.is("there no more", x.armOf(2, 8), 99);
        x.mend(2, 3, 1);
        x.seed(1);
        x.days(1);
        Due.is("on another doll it stays", x.armOf(2, 8), 31);
    }

    private static void promise36Refusals() {
        DrawerOfArms x = new DrawerOfArms();
        Due.is("no arms, no dolls, ahead of n", x.days(0), -5);
        x.doll(5, 0, 0, 2, 1, 0, 0);
        Due.is("no arms", x.days(1), -5);
        x.arm(0, 0, 0, 0, 0, 0);
        Due.is("0", x.days(0), -6);
        Due.is("61", x.days(61), -6);
        Due.is("-1", x.days(-1), -6);
        Due.is("no day passed", x.status(6), 0);
        Due.is("nothing was drawn", x.status(7), 1);
        Due.is("60", x.days(60), 0);
        Due.is("today", x.status(6), 60);
        DrawerOfArms y = new DrawerOfArms();
        y.arm(0, 0, 0, 0, 0, 0);
        Due.is("no dolls", y.days(1), -5);
        Due.is("counted", x.status(15) * 10 + x.status(16), 23);
    }
}
