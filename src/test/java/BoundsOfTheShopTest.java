/**
 * The boundary cases of "1. THE SHOP", of the shelves, and of promises 1 to 17: one test for each sentence, which
 * is quoted. What is refused there stands in RefusalsTest as well, with all that must stay as it was.
 */
public final class BoundsOfTheShopTest {
    private static final String NEW_ARM = "arm(0, 0, 0, 5, 5, 5)";
    private static final String NEW_DOLL = "doll(5, 5, 5, 2, 1, 0, 0)";
    private static final String ARM = "arm 0 0 0 5 5 5";
    private static final String DOLL = "doll 5 5 5 2 1 0 0";
    private static final long[] FAR = {-2147483648, -256, 256, 65536, 2147483647};

    public static void main(String[] args) {
        armsEightAtMost();
        armsKinds();
        armsNumbers();
        armsAreInTheDrawerOrOnASide();
        dollsFiveAtMost();
        dollsNumbers();
        dollsDays();
        dollsSides();
        countsAtFirst();
        shelvesZeroToSeven();
        rowsElements();
        rowsLowestBits();
        rowsReadAsInts();
        copyBounds();
        elementIfThereIsNone();
        showAndHolds();
        saysOneUnderIt();
        fiveHundredAndTwelveCalls();
        Due.end("BoundsOfTheShopTest");
    }

    private static void armsEightAtMost() {
        Run run = Run.of("ARMS have numbers, from 0 on, 8 at most", "status(0) = 0 \n armOf(0, 0) = -5");
        for (int i = 0; i < 8; i++) {
            run.is("status(0)", i).is("status(2)", i).is(NEW_ARM, i);
            run.is("armOf(" + i + ", 8)", 99).is("armOf(" + (i + 1) + ", 8)", -5);
        }
        run.is(NEW_ARM, -7).is("status(0)", 8).is("status(2)", 8).is(NEW_ARM, -7).is("status(17)", 2);
        run.go("armOf(7, 3) = 5 \n armOf(8, 3) = -5 \n armOf(-1, 3) = -5");
    }

    private static void armsKinds() {
        Run run = Run.of("each of a KIND: 0 ARM; .. 6 GLUED");
        for (int kind = 0; kind <= 6; kind++) {
            run.is("arm(" + kind + ", 1, 0, 5, 5, 5)", kind).is("armOf(" + kind + ", 0)", kind);
        }
        run.each("arm(#, 1, 0, 5, 5, 5)", -1, -1, 7).each("arm(#, 1, 0, 5, 5, 5)", -1, FAR).is("status(0)", 7);
    }

    /** a, SIDE, SIZE, SHADE, WEAR: the least and the most of each, and one further. */
    private static void armsNumbers() {
        String[] calls = {"arm(0, #, 0, 5, 5, 5)", "arm(0, 5, #, 5, 5, 5)", "arm(0, 5, 0, #, 5, 5)", "arm(0, 5, 0, 5, #, 5)",
            "arm(0, 5, 0, 5, 5, #)"};
        for (int i = 0; i < calls.length; i++) {
            int most = i == 1 ? 1 : 9;
            Run run = Run.of("a (0 to 9), SIDE (0 left, 1 right), SIZE (0 to 9), SHADE (0 to 9), WEAR (0 to 9)");
            run.each(calls[i], 0, 0).each(calls[i], 1, most);
            run.is("armOf(0, " + (1 + i) + ")", 0).is("armOf(1, " + (1 + i) + ")", most);
            run.each(calls[i], -6, -1, most + 1).each(calls[i], -6, FAR).is("status(0)", 2);
        }
        Run run = Run.of("SHADE (0 to 9), WEAR (0 to 9), also when dyed").is(NEW_ARM, 0);
        run.go("dye(0, 0, 0) = 5 \n dye(0, 0, 9) = 0 \n dye(0, 0, 10) = -6 \n dye(0, 0, -1) = -6 \n armOf(0, 4) = 9 \n armOf(0, 5) = 5");
        run.go("dye(0, 1, 0) = 5 \n dye(0, 1, 9) = 0 \n dye(0, 1, 10) = -6 \n dye(0, 1, -1) = -6 \n armOf(0, 5) = 9 \n armOf(0, 4) = 9");
    }

    private static void armsAreInTheDrawerOrOnASide() {
        Run run = Run.of("it is in THE DRAWER (at first), or ON a DOLL's side");
        for (int d = 0; d < 5; d++) {
            run.is(NEW_DOLL, d);
        }
        run.is("arm(4, 0, 1, 5, 0, 0)", 0).is("armOf(0, 8)", 99).is("status(2)", 1);
        for (int d = 0; d < 5; d++) {
            for (int side = 0; side < 2; side++) {
                String spot = d + ", " + side + ")";
                run.is("on(" + spot, -1).is("mend(0, " + spot, 2 * d + side + 1).is("armOf(0, 8)", 10 * d + side);
                run.is("on(" + spot, 0).is("on(" + d + ", " + (1 - side) + ")", -1).is("status(2)", 0);
                run.is("off(0)", 10 * d + side).is("armOf(0, 8)", 99).is("on(" + spot, -1).is("status(2)", 1);
            }
        }
    }

    private static void dollsFiveAtMost() {
        Run run = Run.of("DOLLS have numbers, from 0 on, 5 at most", "status(1) = 0 \n dollOf(0, 0) = -5");
        for (int d = 0; d < 5; d++) {
            run.is("status(1)", d).is(NEW_DOLL, d).is("dollOf(" + d + ", 0)", 5).is("dollOf(" + (d + 1) + ", 0)", -5);
        }
        run.is(NEW_DOLL, -7).is("status(1)", 5).is("status(17)", 1);
        run.go("dollOf(4, 0) = 5 \n dollOf(5, 0) = -5 \n dollOf(-1, 0) = -5");
    }

    /** SIZE, SHADE, WEAR, WISH, MINUTES, TEARS, BEARS: the least and the most of each, and one further. */
    private static void dollsNumbers() {
        String[] calls = {"doll(#, 5, 5, 1, 5, 5, 5)", "doll(5, #, 5, 1, 5, 5, 5)", "doll(5, 5, #, 1, 5, 5, 5)",
            "doll(5, 5, 5, #, 5, 5, 5)", "doll(5, 5, 5, 1, #, 5, 5)", "doll(5, 5, 5, 1, 5, #, 5)", "doll(5, 5, 5, 1, 5, 5, #)"};
        int[] least = {0, 0, 0, 0, 1, 0, 0};
        int[] most = {9, 9, 9, 2, 99, 9, 40};
        for (int i = 0; i < calls.length; i++) {
            Run run = Run.of("SIZE, SHADE, WEAR (0 to 9), a WISH (0 .. 2 ..), MINUTES (1 to 99), TEARS (0 to 9), BEARS (0 to 40)");
            run.each(calls[i], 0, least[i]).each(calls[i], 1, most[i]);
            run.is("dollOf(0, " + i + ")", least[i]).is("dollOf(1, " + i + ")", most[i]);
            run.each(calls[i], -6, least[i] - 1, most[i] + 1).each(calls[i], -6, FAR).is("status(1)", 2);
        }
        String[] told = {"tell(0, 0, #)", "tell(0, 1, #)", "tell(0, 2, #)"};
        int[] where = {3, 5, 6};
        for (int i = 0; i < told.length; i++) {
            int last = most[where[i]];
            Run run = Run.of("WISH, TEARS, BEARS as they are told", "doll(5, 5, 5, 1, 5, 1, 1) = 0");
            run.each(told[i], 1, 0).each(told[i], 0, last).each(told[i], -6, -1, last + 1).each(told[i], -6, FAR);
            run.is("dollOf(0, " + where[i] + ")", last);
        }
    }

    private static void dollsDays() {
        Run run = Run.of("DAYS left lying (0 to 99; 0 at first)").is(NEW_DOLL, 0).is("dollOf(0, 7)", 0);
        run.go("tell(0, 3, 0) = 0 \n tell(0, 3, 99) = 0 \n tell(0, 3, 100) = -6 \n tell(0, 3, -1) = -6 \n dollOf(0, 7) = 99");
        run.is(NEW_DOLL, 1).is("dollOf(1, 7)", 0);
    }

    private static void dollsSides() {
        Run run = Run.of("on its left and right side an ARM, or NONE (at first)");
        run.is(NEW_ARM, 0).is(NEW_DOLL, 0).go("on(0, 0) = -1 \n on(0, 1) = -1 \n on(0, 2) = -16 \n on(0, -1) = -16");
        run.go("mend(0, 0, 0) = 1 \n on(0, 0) = 0 \n on(0, 1) = -1").is(NEW_DOLL, 1).go("on(1, 0) = -1 \n on(1, 1) = -1");
    }

    private static void countsAtFirst() {
        Run run = Run.of("MENDED, SPENT, TODAY (0 at first); A new object: No ARMS, no DOLLS");
        run.go("status(4) = 0 \n status(5) = 0 \n status(6) = 0 \n status(0) = 0 \n status(1) = 0 \n status(2) = 0 \n status(3) = 0");
        run.go("status(7) = 1 \n status(8) = 0 \n fault() = -1 \n trace(0) = -1").each("status(#)", 0, 11, 12, 13, 14, 15, 16, 17);
    }

    private static void shelvesZeroToSeven() {
        Run run = Run.of("SHELVES 0 to 7 hold NOTHING (at first)").is(NEW_ARM, 0);
        run.each("holds(#)", -1, 0, 1, 2, 3, 4, 5, 6, 7).each("holds(#)", -1, -1, 8);
        run.each("row(#, 2, 2)", 1, 0, 7).each("row(#, 2, 2)", -1, -1, 8);
        run.each("holds(#)", 102, 0, 7).each("holds(#)", -1, 1, 6);
        run.each("set(#, 1, 9)", 1, 0, 7).each("set(#, 1, 9)", -1, -1, 8).each("element(#, 1)", 9, 0, 7).each("element(#, 1)", 0, -1, 8);
        run.go("copy(0, 7, 0, 0, 1) = 1 \n copy(7, 0, 0, 0, 1) = 1 \n copy(0, 8, 0, 0, 1) = -1 \n copy(-1, 7, 0, 0, 1) = -1");
        run.each("show(#, 0)", 1, 0, 7).each("show(#, 0)", -1, -1, 8).each("says(#, 0)", 5, 0, 7).each("says(#, 0)", -1, -1, 8);
        run.each("holds(#)", 0, 0, 7).each("show(#, -1)", 0, 0, 7).each("holds(#)", -1, 0, 7);
    }

    private static void rowsElements() {
        for (int sort = 0; sort <= 3; sort++) {
            Run run = Run.of("A ROW has a SORT .. and 0 to 160 elements, 0 at first", "row(3, " + sort + ", 160) = 1");
            for (int i = 0; i < 160; i += 53) {
                run.is("element(3, " + i + ")", 0);
            }
            run.go("set(3, 159, 1) = 1 \n set(3, 0, 2) = 1 \n set(3, 160, 3) = -5 \n set(3, -1, 3) = -5");
            run.go("element(3, 159) = 1 \n element(3, 0) = 2 \n element(3, 160) = 0 \n element(3, -1) = 0");
            run.go("row(3, " + sort + ", 161) = -7 \n element(3, 159) = 1 \n row(3, " + sort + ", -1) = -4 \n element(3, 0) = 2");
            run.go("row(3, " + sort + ", 160) = 1 \n element(3, 159) = 0 \n element(3, 0) = 0 \n set(3, 0, 4) = 1");
            run.go("row(3, " + sort + ", 0) = 1 \n holds(3) = " + (100 + sort) + " \n element(3, 0) = 0 \n set(3, 0, 1) = -5");
            run.go("row(3, " + sort + ", 1) = 1 \n element(3, 0) = 0 \n set(3, 0, 1) = 1 \n set(3, 1, 1) = -5");
        }
        Run.of("a SORT (0 .. 3)", "row(0, 0, 1) = 1 \n row(0, 3, 1) = 1 \n row(0, -1, 1) = -6 \n row(0, 4, 1) = -6 \n holds(0) = 103");
    }

    private static void rowsLowestBits() {
        Run.of("what is put in keeps its lowest bits", """
            row(0, 0, 1) = 1
            set(0, 0, 127) = 1
            element(0, 0) = 127
            set(0, 0, 128) = 1
            element(0, 0) = -128
            set(0, 0, -128) = 1
            element(0, 0) = -128
            set(0, 0, -129) = 1
            element(0, 0) = 127
            set(0, 0, 255) = 1
            element(0, 0) = -1
            set(0, 0, 256) = 1
            element(0, 0) = 0
            set(0, 0, 9223372036854775807) = 1
            element(0, 0) = -1
            row(1, 1, 1) = 1
            set(1, 0, 32767) = 1
            element(1, 0) = 32767
            set(1, 0, 32768) = 1
            element(1, 0) = -32768
            set(1, 0, -32769) = 1
            element(1, 0) = 32767
            set(1, 0, 65536) = 1
            element(1, 0) = 0
            row(2, 2, 1) = 1
            set(2, 0, 2147483647) = 1
            element(2, 0) = 2147483647
            set(2, 0, 2147483648) = 1
            element(2, 0) = -2147483648
            set(2, 0, -2147483649) = 1
            element(2, 0) = 2147483647
            set(2, 0, 4294967296) = 1
            element(2, 0) = 0
            row(3, 3, 2) = 1
            set(3, 0, 9223372036854775807) = 1
            element(3, 0) = 9223372036854775807
            set(3, 1, -9223372036854775808) = 1
            element(3, 1) = -9223372036854775808
            set(3, 0, 4294967296) = 1
            element(3, 0) = 4294967296
            """);
    }

    private static void rowsReadAsInts() {
        Run run = Run.of("All is read as ints (of longs the lowest 32 bits)").is(NEW_ARM, 0).is("doll(5, 5, 5, 0, 1, 0, 0)", 0);
        // 1 << 32 is read as 0: arm 0, doll 0, left
        run.go("row(0, 3, 2) = 1 \n set(0, 0, 4294967296) = 1 \n set(0, 1, -4294967296) = 1 \n judge(0, 1) = -1 \n done(0, 1) = 1");
        run.go("looks(0, 0, 0) = 32 \n set(0, 0, 2147483648) = 1 \n looks(0, 0, 0) = 0 \n judge(0, 1) = 0");
        run.go("element(0, 1) = -4294967296");
        // a long of 2 to the 32nd and the letter
        run.is("row(1, 3, 5)", 1);
        for (int i = 0; i < 5; i++) {
            run.is("set(1, " + i + ", " + ((1L << 32) + "off 0".charAt(i)) + ")", 1);
        }
        run.go("shop(1) = 1 \n on(0, 0) = -1");
        // a byte holds 97 where 97 and 256 was put in; a short doesn't
        run.write(2, "lies 0 9").go("set(2, 0, 364) = 1 \n shop(2) = 1 \n row(3, 1, 8) = 1");
        for (int i = 0; i < 8; i++) {
            run.is("set(3, " + i + ", " + ("lies 0 9".charAt(i) + (i == 0 ? 256 : 0)) + ")", 1);
        }
        run.go("shop(3) = -6 \n fault() = 0 \n set(3, 0, 65644) = 1 \n shop(3) = 1");
    }

    private static void copyBounds() {
        Run run = Run.of("Elements i, i + 1, .. n of them, come to elements j, j + 1, .. (as they were ahead)");
        run.fill(0, 10, 11, 12, 13).fill(1, 20, 21);
        run.go("copy(0, 1, 2, 0, 2) = 1 \n element(1, 0) = 12 \n element(1, 1) = 13");
        run.go("copy(0, 1, 3, 0, 2) = -5 \n copy(0, 1, 2, 1, 2) = -5 \n copy(0, 1, 0, 0, 3) = -5 \n element(1, 0) = 12 \n element(1, 1) = 13");
        run.go("copy(0, 1, 4, 2, 0) = 1 \n copy(0, 1, 5, 2, 0) = -5 \n copy(0, 1, 4, 3, 0) = -5 \n copy(0, 1, 0, 0, 0) = 1");
        run.go("copy(0, 1, -1, 0, 1) = -5 \n copy(0, 1, 0, -1, 1) = -5 \n copy(0, 1, 0, 0, -1) = -4");
        run.go("copy(0, 0, 0, 1, 3) = 1 \n element(0, 0) = 10 \n element(0, 1) = 10 \n element(0, 2) = 11 \n element(0, 3) = 12");
        run.go("copy(0, 0, 1, 0, 3) = 1 \n element(0, 0) = 10 \n element(0, 1) = 11 \n element(0, 2) = 12 \n element(0, 3) = 12");
        run.go("copy(0, 0, 0, 0, 4) = 1 \n element(0, 1) = 11 \n copy(0, 0, 0, 0, 5) = -5");
        run.go("row(2, 2, 0) = 1 \n copy(2, 2, 0, 0, 0) = 1 \n copy(0, 2, 4, 0, 0) = 1 \n copy(2, 0, 0, 4, 0) = 1 \n copy(2, 0, 0, 0, 1) = -5");
        Run full = Run.of("copy of a full row", "row(0, 3, 160) = 1 \n row(1, 3, 160) = 1 \n set(0, 159, 7) = 1 \n set(0, 0, 8) = 1");
        full.go("copy(0, 1, 0, 0, 160) = 1 \n element(1, 159) = 7 \n element(1, 0) = 8 \n copy(0, 1, 0, 0, 161) = -5");
        full.go("copy(0, 1, 1, 0, 160) = -5 \n copy(0, 1, 0, 1, 160) = -5 \n copy(0, 1, 159, 0, 1) = 1 \n element(1, 0) = 7");
        full.go("copy(0, 1, 160, 160, 0) = 1 \n copy(0, 1, 161, 160, 0) = -5");
        // sums that wrap around
        full.go("copy(0, 1, 1, 0, 2147483647) = -5 \n copy(0, 1, 0, 1, 2147483647) = -5 \n copy(0, 1, 2147483647, 0, 1) = -5");
        full.go("copy(0, 1, 0, 2147483647, 1) = -5 \n copy(0, 1, -2147483648, 0, 0) = -5 \n copy(0, 1, 0, 0, -2147483648) = -4");
    }

    private static void elementIfThereIsNone() {
        Run run = Run.of("Element i of the ROW; 0 if there is none (nothing is refused)").is(NEW_ARM, 0).fill(0, 6, 7).fill(1, 8, 9);
        run.go("element(0, 0) = 6 \n element(0, 1) = 7 \n element(0, 2) = 0 \n element(0, -1) = 0");
        run.go("row(0, 2, 1) = 1 \n element(0, 1) = 0 \n show(1, 0) = 1 \n element(1, 0) = 0 \n element(2, 0) = 0");
        run.go("element(8, 0) = 0 \n element(-1, 0) = 0").each("status(#)", 0, 11, 12, 13, 14, 15, 16, 17);
    }

    private static void showAndHolds() {
        Run run = Run.of("SHELF s holds an ARM, or NOTHING (arm NONE): 1, 0").is(NEW_ARM, 0).is(NEW_ARM, 1);
        run.go("show(0, 2) = -1 \n show(0, -2) = -1 \n holds(0) = -1 \n show(0, 1) = 1 \n holds(0) = 1 \n show(0, 0) = 1 \n holds(0) = 0");
        run.go("show(0, -1) = 0 \n holds(0) = -1 \n show(0, -1) = 0 \n row(0, 1, 2) = 1 \n holds(0) = 101 \n show(0, -1) = 0 \n holds(0) = -1");
        run.go("row(0, 3, 0) = 1 \n holds(0) = 103 \n show(0, 1) = 1 \n holds(0) = 1 \n set(0, 0, 1) = -2 \n row(0, 0, 1) = 1 \n holds(0) = 100");
        run.go("set(0, 0, 1) = 1 \n says(0, 0) = -2 \n copy(0, 0, 0, 0, 1) = 1 \n judge(0, 0) = -1");
        for (int i = 2; i < 8; i++) {
            run.is(NEW_ARM, i);
        }
        run.go("show(7, 7) = 1 \n holds(7) = 7 \n show(7, 8) = -1 \n holds(7) = 7");
    }

    /** By KINDS from 0 on, which each may be taken for: itself and those above it. */
    private static void saysOneUnderIt() {
        int[] mayBe = {0b0000001, 0b0000011, 0b0000101, 0b0001011, 0b0010001, 0b0100101, 0b1001011};
        for (int kind = 0; kind <= 6; kind++) {
            Run run = Run.of("an ARM that isn't of the KIND wanted, or one under it", "arm(" + kind + ", 1, 1, 4, 6, 7) = 0");
            run.is("show(0, 0)", 1);
            // size 4, right; stained its shade is seen as 7; cast its wear as 0, old as 8
            int[] due = {4, 7, kind == 5 ? 8 : 0, 7, 1, 8, 7};
            for (int taken = 0; taken <= 6; taken++) {
                run.is("says(0, " + taken + ")", (mayBe[kind] >> taken & 1) != 0 ? due[taken] : -2);
            }
            run.go("says(0, -1) = -1 \n says(0, 7) = -1").is("status(12)", 7 - Integer.bitCount(mayBe[kind]));
        }
    }

    private static void fiveHundredAndTwelveCalls() {
        Run run = Run.of("An object is used for at most 512 calls").is(NEW_ARM, 0).is(NEW_DOLL, 0);
        for (int i = 0; i < 254; i++) {
            run.is("mend(0, 0, 0)", i + 1).is("off(0)", 0);
        }
        run.is("status(4)", 254).is("status(5)", 254);
        DrawerOfArms x = new DrawerOfArms();
        int refused = 0;
        for (int i = 1; i < 512; i++) {
            refused += x.shop(0) == -3 ? 1 : 0;
        }
        Due.is("511 refusals", refused, 511);
        Due.is("the 512th call tells them", x.status(13), 511);
    }
}
