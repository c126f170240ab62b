/** Promises 16 and 17: shops read from texts, and their faults. */
public final class ShopTextTest {
    private static final String ARM = "arm 0 0 0 4 3 2";
    private static final String DOLL = "doll 5 5 2 0 30 4 12";

    public static void main(String[] args) {
        promise16Items();
        promise16OverWhatThereIs();
        promise16Sorts();
        promise16Refusals();
        promise17Words();
        promise17Numbers();
        promise17ArmNumbers();
        promise17DollNumbers();
        promise17On();
        promise17OffAndLies();
        promise17Room();
        promise17Latest();
        everyCutIsToldAtItsEnd();
        Due.end("ShopTextTest");
    }

    private static DrawerOfArms two() {
        DrawerOfArms x = new DrawerOfArms();
        Due.shop(x, ARM + ";" + DOLL, 2, -1);
        return x;
    }

    private static void promise16Items() {
        DrawerOfArms x = new DrawerOfArms();
        Due.shop(x, "arm 6 9 1 8 7 5", 1, -1);
        int[] arm = {6, 9, 1, 8, 7, 5};
        for (int what = 0; what < 6; what++) {
            Due.is("arm's " + what, x.armOf(0, what), arm[what]);
        }
        Due.shop(x, "doll 1 2 3 2 99 6 40", 1, -1);
        int[] doll = {1, 2, 3, 2, 99, 6, 40, 0};
        for (int what = 0; what < 8; what++) {
            Due.is("doll's " + what, x.dollOf(0, what), doll[what]);
        }
        Due.shop(x, ARM + ";arm 4 0 1 4 0 0;doll 4 0 0 1 01 0 00;on 1 1;on 2 01;lies 1 99;off 1;lies 0 7", 8, -1);
        Due.is("off again", x.armOf(1, 8), 99);
        Due.is("on its own side", x.armOf(2, 8), 11);
        Due.is("lies", x.dollOf(1, 7), 99);
        Due.is("lies", x.dollOf(0, 7), 7);
        Due.is("telling is no mend", x.status(4), 0);
        Due.is("nor costs it time", x.status(5), 0);
    }

    private static void promise16OverWhatThereIs() {
        DrawerOfArms x = two();
        Due.shop(x, "on 0 0;arm 0 0 0 5 5 5;off 0;on 1 0;lies 0 3;lies 0 100", -6, 54);
        Due.is("or nothing: arms", x.status(0), 1);
        Due.is("or nothing: on", x.on(0, 0), -1);
        Due.is("or nothing: days", x.dollOf(0, 7), 0);
        Due.shop(x, "on 0 0;arm 0 0 0 5 5 5;off 0;on 1 0;lies 0 3;lies 0 10", 6, -1);
        Due.is("all: arms", x.status(0), 2);
        Due.is("all: on", x.on(0, 0), 1);
        Due.is("all: days", x.dollOf(0, 7), 10);
    }

    private static void promise16Sorts() {
        for (int sort = 0; sort < 4; sort++) {
            DrawerOfArms x = new DrawerOfArms();
            x.row(0, sort, ARM.length());
            for (int i = 0; i < ARM.length(); i++) {
                x.set(0, i, ARM.charAt(i) + 256L * (sort == 0 ? 3 : 0) + (sort < 3 ? 1L << 40 : 7L << 32));
            }
            Due.is("read as ints, sort " + sort, x.shop(0), 1);
            x.row(0, sort, ARM.length());
            for (int i = 0; i < ARM.length(); i++) {
                x.set(0, i, ARM.charAt(i) + (i == 3 ? 256 : 0));
            }
            Due.is("shorts and more keep 256, sort " + sort, x.shop(0), sort == 0 ? 1 : -6);
            Due.is("there", x.fault(), sort == 0 ? -1 : 3);
        }
    }

    private static void promise16Refusals() {
        DrawerOfArms x = two();
        Due.shop(x, "x", -6, 0);
        x.show(0, 0);
        Due.is("no shelf", x.shop(8), -1);
        Due.is("no shelf", x.shop(-1), -1);
        Due.is("an arm", x.shop(0), -2);
        Due.is("nothing", x.shop(1), -3);
        Due.is("the fault of the one that came to a row", x.fault(), 0);
        Due.is("counted -1", x.status(11), 2);
        Due.is("counted -2", x.status(12), 1);
        Due.is("counted -3", x.status(13), 1);
        Due.is("counted -6", x.status(16), 1);
    }

    private static void promise17Words() {
        DrawerOfArms x = two();
        Due.shop(x, "", -6, 0);
        Due.shop(x, " arm", -6, 0);
        Due.shop(x, ";", -6, 0);
        Due.shop(x, "Arm", -6, 0);
        Due.shop(x, "a", -6, 1);
        Due.shop(x, "ax", -6, 1);
        Due.shop(x, "ar", -6, 2);
        Due.shop(x, "ar ", -6, 2);
        Due.shop(x, "arm", -6, 3);
        Due.shop(x, "arms", -6, 3);
        Due.shop(x, "dol", -6, 3);
        Due.shop(x, "dolk", -6, 3);
        Due.shop(x, "doll", -6, 4);
        Due.shop(x, "o", -6, 1);
        Due.shop(x, "om", -6, 1);
        Due.shop(x, "on", -6, 2);
        Due.shop(x, "onn", -6, 2);
        Due.shop(x, "of", -6, 2);
        Due.shop(x, "of 0", -6, 2);
        Due.shop(x, "off", -6, 3);
        Due.shop(x, "lie", -6, 3);
        Due.shop(x, "lie 0", -6, 3);
        Due.shop(x, "lies", -6, 4);
        Due.shop(x, ARM + ";", -6, 16);
        Due.shop(x, ARM + ";;", -6, 16);
        Due.shop(x, ARM + " ;" + ARM, -6, 15);
        Due.shop(x, ARM + "; " + ARM, -6, 16);
        Due.shop(x, ARM + " ", -6, 15);
        Due.is("nothing was told", x.status(0), 1);
    }

    private static void promise17Numbers() {
        DrawerOfArms x = two();
        Due.shop(x, "arm ", -6, 4);
        Due.shop(x, "arm  0", -6, 4);
        Due.shop(x, "arm x", -6, 4);
        Due.shop(x, "arm -1", -6, 4);
        Due.shop(x, "arm 0", -6, 5);
        Due.shop(x, "arm 0;", -6, 5);
        Due.shop(x, "arm 0x", -6, 5);
        Due.shop(x, "arm 06", -6, 6);
        Due.shop(x, "arm 006", -6, 6);
        Due.shop(x, "arm 7", -6, 4);
        Due.shop(x, "arm 7x", -6, 4);
        Due.shop(x, "arm 123", -6, 4);
        Due.shop(x, "arm 00 00 00 04 03 02", 1, -1);
        Due.shop(x, "arm 0 0 0 4 3 002", -6, 16);
        Due.shop(x, "lies 0 99", 1, -1);
        Due.shop(x, "lies 0 990", -6, 9);
        Due.shop(x, "lies 0 999", -6, 9);
    }

    private static void promise17ArmNumbers() {
        int[] most = {6, 9, 1, 9, 9, 9};
        for (int i = 0; i < 6; i++) {
            StringBuilder ahead = new StringBuilder("arm");
            for (int k = 0; k < i; k++) {
                ahead.append(" 0");
            }
            StringBuilder behind = new StringBuilder();
            for (int k = i + 1; k < 6; k++) {
                behind.append(" 0");
            }
            DrawerOfArms x = new DrawerOfArms();
            Due.shop(x, ahead + " " + most[i] + behind, 1, -1);
            Due.shop(x, ahead + " " + (most[i] + 1) + behind, -6, ahead.length() + 1);
            Due.shop(x, ahead + " 99", -6, ahead.length() + 1);
        }
    }

    private static void promise17DollNumbers() {
        int[] most = {9, 9, 9, 2, 99, 9, 40};
        for (int i = 0; i < 7; i++) {
            StringBuilder ahead = new StringBuilder("doll");
            for (int k = 0; k < i; k++) {
                ahead.append(k == 4 ? " 1" : " 0");
            }
            StringBuilder behind = new StringBuilder();
            for (int k = i + 1; k < 7; k++) {
                behind.append(k == 4 ? " 1" : " 0");
            }
            DrawerOfArms x = new DrawerOfArms();
            Due.shop(x, ahead + " " + most[i] + behind, 1, -1);
            if (i != 4) {
                Due.shop(x, ahead + " " + (most[i] + 1) + behind, -6, ahead.length() + 1);
                Due.shop(x, ahead + " 41", -6, ahead.length() + 1);
            } else {
                Due.shop(x, ahead + " 0" + behind, -6, ahead.length() + 1);
                Due.shop(x, ahead + " 00" + behind, -6, ahead.length() + 1);
                Due.shop(x, ahead + " 01" + behind, 1, -1);
            }
        }
    }

    private static void promise17On() {
        DrawerOfArms x = two();
        // 1 left like 0; 2 right, too large by 2; 3 doubled, right
        Due.shop(x, ARM + ";arm 0 0 1 7 3 2;arm 4 0 1 5 0 0", 3, -1);
        Due.shop(x, "on 4 0", -6, 3);
        Due.shop(x, "on 10 0", -6, 3);
        Due.shop(x, "on 0", -6, 4);
        Due.shop(x, "on 0 ", -6, 5);
        Due.shop(x, "on 0 1", -6, 5);
        Due.shop(x, "on 0 01", -6, 5);
        Due.shop(x, "on 2 0", -6, 5);
        Due.shop(x, "on 0 0", 1, -1);
        Due.shop(x, "on 0 0", -6, 3);
        Due.shop(x, "on 1 0", -6, 5);
        Due.shop(x, "on 3 0;on 1 0", -6, 12);
        Due.shop(x, "on 3 0;off 0;on 1 0", 3, -1);
        Due.is("doubled on its own side", x.on(0, 1), 3);
        Due.is("the other one", x.on(0, 0), 1);
        Due.shop(x, "off 3;arm 0 0 1 4 0 0;on 4 0;on 3 0", -6, 34);
    }

    private static void promise17OffAndLies() {
        DrawerOfArms x = two();
        Due.shop(x, "off 0", -6, 4);
        Due.shop(x, "off 1", -6, 4);
        Due.shop(x, "off 0;on 0 0", -6, 4);
        Due.shop(x, "on 0 0;off 0;off 0", -6, 17);
        Due.shop(x, "on 0 0;off 00", 2, -1);
        Due.shop(x, "lies 1 5", -6, 5);
        Due.shop(x, "lies 0", -6, 6);
        Due.shop(x, "lies 0 ", -6, 7);
        Due.shop(x, "lies 0 x", -6, 7);
        Due.shop(x, "lies 0 5;", -6, 9);
        Due.shop(x, "lies 0 05", 1, -1);
        Due.is("lies", x.dollOf(0, 7), 5);
    }

    private static void promise17Room() {
        DrawerOfArms x = new DrawerOfArms();
        for (int i = 0; i < 7; i++) {
            Due.shop(x, ARM, 1, -1);
        }
        Due.shop(x, ARM + ";" + ARM, -6, 16);
        Due.shop(x, ARM + ";arm", -6, 16);
        Due.shop(x, ARM + ";ar", -6, 18);
        Due.shop(x, ARM + ";arx", -6, 18);
        Due.is("none came", x.status(0), 7);
        Due.shop(x, ARM, 1, -1);
        Due.shop(x, "arm", -6, 0);
        Due.shop(x, "armx", -6, 0);
        Due.shop(x, "ar", -6, 2);
        Due.shop(x, "ark", -6, 2);
        Due.shop(x, DOLL + ";" + DOLL + ";" + DOLL + ";" + DOLL, 4, -1);
        Due.shop(x, DOLL + ";doll 5 5 2 0 0", -6, 21);
        Due.shop(x, DOLL + ";dol", -6, 24);
        Due.shop(x, DOLL + ";dole", -6, 24);
        Due.is("four dolls", x.status(1), 4);
        Due.is("a shop is never refused for room but as a fault", x.status(17), 0);
    }

    private static void promise17Latest() {
        DrawerOfArms x = new DrawerOfArms();
        Due.is("none yet", x.fault(), -1);
        Due.shop(x, "arm 9", -6, 4);
        Due.is("it stands", x.fault(), 4);
        Due.shop(x, ARM, 1, -1);
        Due.shop(x, "q", -6, 0);
    }

    /** Every beginning of a text that goes on as such texts do has its end for a fault, or is a shop. */
    private static void everyCutIsToldAtItsEnd() {
        String text = ARM + ";" + DOLL + ";on 0 0;off 0;lies 0 45";
        for (int n = 0; n <= text.length(); n++) {
            DrawerOfArms x = new DrawerOfArms();
            String cut = text.substring(0, n);
            boolean whole = n == 15 || n == 36 || n == 35 || n == 43 || n == 49 || n == 58 || n == 59;
            Due.write(x, 0, cut);
            int items = 1;
            for (int i = 0; i < n; i++) {
                items += cut.charAt(i) == ';' ? 1 : 0;
            }
            Due.is("shop of " + cut, x.shop(0), whole ? items : -6);
            Due.is("fault of " + cut, x.fault(), whole ? -1 : n);
        }
    }
}
