/** The boundary cases of "2. LOOKS" (and of promises 13, 14, 18 and 19): one test for each sentence, which is quoted. */
public final class BoundsOfLooksTest {
    public static void main(String[] args) {
        plainAsTheyAre();
        stainedShade();
        robbedWear();
        gluedWear();
        castWear();
        oldWear();
        doubledAsPlain();
        everyLook();
        fitsSides();
        fitsSizes();
        fitsWhereverItIs();
        unlikeSizes();
        unlikeAsItWas();
        unlikeAsNew();
        unlikeThatItHolds();
        unlikeIsOfWhatIsSeen();
        herAtMost();
        herTogether();
        Due.end("BoundsOfLooksTest");
    }

    /** Looks of an arm of a kind with a, by rows of SHADE, WEAR, SHADE as seen, WEAR as seen. */
    private static void looks(String sentence, int kind, int a, int[]... rows) {
        Run run = Run.of(sentence, "arm(" + kind + ", " + a + ", 0, 5, 5, 5) = 0");
        for (int[] row : rows) {
            run.ask("dye(0, 0, " + row[0] + ")");
            run.ask("dye(0, 1, " + row[1] + ")");
            run.is("armOf(0, 4)", row[0]).is("armOf(0, 5)", row[1]).is("armOf(0, 6)", row[2]).is("armOf(0, 7)", row[3]);
        }
    }

    private static int[] row(int... numbers) {
        return numbers;
    }

    private static void plainAsTheyAre() {
        looks("ARM: as they are", 0, 9, row(0, 0, 0, 0), row(9, 9, 9, 9), row(0, 9, 0, 9), row(9, 0, 9, 0));
    }

    private static void stainedShade() {
        looks("STAINED: SHADE a more (9 at most)", 1, 4, row(0, 0, 4, 0), row(4, 9, 8, 9), row(5, 9, 9, 9), row(6, 0, 9, 0), row(9, 0, 9, 0));
        looks("STAINED with a 0", 1, 0, row(0, 3, 0, 3), row(8, 3, 8, 3), row(9, 3, 9, 3));
        looks("STAINED with a 9", 1, 9, row(0, 9, 9, 9), row(1, 0, 9, 0), row(9, 5, 9, 5));
    }

    private static void robbedWear() {
        looks("ROBBED: as STAINED, WEAR 1 more (9 at most)", 3, 4, row(4, 0, 8, 1), row(5, 7, 9, 8), row(6, 8, 9, 9), row(0, 9, 4, 9));
        looks("ROBBED with a 0", 3, 0, row(9, 0, 9, 1), row(0, 9, 0, 9));
    }

    private static void gluedWear() {
        looks("GLUED: as ROBBED, WEAR a more (9 at most)", 6, 4, row(4, 0, 8, 5), row(5, 3, 9, 8), row(6, 4, 9, 9), row(0, 5, 4, 9), row(0, 9, 4, 9));
        looks("GLUED with a 0", 6, 0, row(0, 0, 0, 1), row(9, 7, 9, 8), row(8, 8, 8, 9), row(7, 9, 7, 9));
        looks("GLUED with a 9", 6, 9, row(0, 0, 9, 9), row(9, 9, 9, 9));
    }

    private static void castWear() {
        looks("CAST: WEAR 0", 2, 9, row(0, 0, 0, 0), row(9, 9, 9, 0), row(0, 1, 0, 0));
    }

    private static void oldWear() {
        looks("OLD: as CAST, but WEAR 9 less a", 5, 0, row(0, 0, 0, 9), row(9, 9, 9, 9));
        looks("OLD with a 9", 5, 9, row(0, 0, 0, 0), row(9, 9, 9, 0));
        looks("OLD with a 4", 5, 4, row(3, 7, 3, 5));
    }

    private static void doubledAsPlain() {
        looks("DOUBLED: as ARM", 4, 9, row(0, 0, 0, 0), row(9, 9, 9, 9), row(0, 9, 0, 9));
    }

    private static void everyLook() {
        for (int kind = 0; kind <= 6; kind++) {
            for (int a = 0; a <= 9; a++) {
                Run run = Run.of("LOOK of an ARM", "arm(" + kind + ", " + a + ", 1, 0, 0, 0) = 0");
                for (int v = 0; v <= 9; v++) {
                    boolean stained = kind == 1 || kind == 3 || kind == 6;
                    int[] wear = {v, v, 0, Math.min(v + 1, 9), v, 9 - a, Math.min(v + 1 + a, 9)};
                    run.is("dye(0, 0, " + v + ")", Math.max(0, v - 1)).is("dye(0, 1, " + v + ")", Math.max(0, v - 1));
                    run.is("armOf(0, 6)", stained ? Math.min(v + a, 9) : v).is("armOf(0, 7)", wear[kind]);
                }
            }
        }
    }

    private static void fitsSides() {
        for (int kind = 0; kind <= 6; kind++) {
            for (int side = 0; side <= 1; side++) {
                Run run = Run.of("FITS: .. if it is of that SIDE (DOUBLED: of either)", "doll(5, 0, 0, 0, 1, 0, 0) = 0");
                run.is("arm(" + kind + ", 9, " + side + ", 5, 0, 0)", 0);
                run.is("fits(0, 0, " + side + ")", 1).is("fits(0, 0, " + (1 - side) + ")", kind == 4 ? 1 : 0);
                run.go("fits(0, 0, 2) = -6 \n fits(0, 0, -1) = -6");
            }
        }
    }

    private static void fitsSizes() {
        for (int kind = 0; kind <= 6; kind++) {
            int reach = kind == 6 ? 2 : 1;
            for (int size = 0; size <= 9; size++) {
                Run run = Run.of("and their SIZES are at most 1 apart (GLUED: 2)", "arm(" + kind + ", 1, 0, " + size + ", 0, 0) = 0");
                for (int d = 0; d < 5; d++) {
                    int dolls = 2 * d + size % 2;
                    run.is("doll(" + dolls + ", 0, 0, 0, 1, 0, 0)", d);
                    run.is("fits(0, " + d + ", 0)", Math.abs(dolls - size) <= reach ? 1 : 0);
                }
                Run next = Run.of("an odd number apart", "arm(" + kind + ", 1, 0, " + size + ", 0, 0) = 0");
                for (int d = 0; d < 5; d++) {
                    int dolls = 2 * d + 1 - size % 2;
                    next.is("doll(" + dolls + ", 0, 0, 0, 1, 0, 0)", d);
                    next.is("fits(0, " + d + ", 0)", Math.abs(dolls - size) <= reach ? 1 : 0);
                }
            }
        }
    }

    private static void fitsWhereverItIs() {
        Run.of("Whether an ARM FITS a SIDE of a DOLL, wherever it is", """
            doll(5, 0, 0, 0, 1, 0, 0) = 0
            doll(6, 0, 0, 0, 1, 0, 0) = 1
            arm(0, 0, 0, 5, 0, 0) = 0
            arm(0, 0, 0, 6, 0, 0) = 1
            mend(0, 0, 0) = 1
            fits(0, 0, 0) = 1
            fits(0, 1, 0) = 1
            fits(1, 0, 0) = 1
            fits(0, 0, 1) = 0
            """);
    }

    private static void unlikeSizes() {
        for (int size = 0; size <= 9; size++) {
            Run run = Run.of("UNLIKE: twice how far their SIZES are apart", "doll(0, 5, 5, 0, 1, 0, 0) = 0");
            run.go("doll(9, 5, 5, 1, 1, 0, 0) = 1 \n doll(4, 5, 5, 2, 1, 0, 0) = 2").is("arm(0, 0, 0, " + size + ", 5, 5)", 0);
            run.is("unlike(0, 0)", 2 * size).is("unlike(0, 1)", 2 * (9 - size) + 5).is("unlike(0, 2)", 2 * Math.abs(size - 4));
        }
    }

    private static void unlikeAsItWas() {
        Run run = Run.of("as it was: how far the SHADES (as seen) and the WEARS (as seen) are apart, together");
        run.go("doll(5, 0, 9, 0, 1, 0, 0) = 0 \n doll(5, 9, 0, 0, 1, 0, 0) = 1 \n doll(5, 4, 4, 0, 1, 0, 0) = 2 \n arm(0, 0, 0, 5, 0, 9) = 0");
        run.go("unlike(0, 0) = 0 \n unlike(0, 1) = 18 \n unlike(0, 2) = 9 \n dye(0, 0, 9) = 0 \n unlike(0, 0) = 9 \n unlike(0, 1) = 9");
        run.go("dye(0, 1, 0) = 9 \n unlike(0, 0) = 18 \n unlike(0, 1) = 0 \n unlike(0, 2) = 9 \n dye(0, 0, 5) = 9 \n dye(0, 1, 3) = 0 \n unlike(0, 2) = 2");
        Run.of("the most", "doll(0, 0, 0, 0, 1, 0, 0) = 0 \n arm(0, 0, 0, 9, 9, 9) = 0 \n unlike(0, 0) = 36");
    }

    private static void unlikeAsNew() {
        Run run = Run.of("as new: how far the SHADES are apart, and the WEAR as it is seen");
        run.go("doll(5, 0, 9, 1, 1, 0, 0) = 0 \n doll(5, 9, 0, 1, 1, 0, 0) = 1 \n arm(0, 0, 0, 5, 0, 9) = 0");
        run.go("unlike(0, 0) = 9 \n unlike(0, 1) = 18 \n dye(0, 1, 0) = 9 \n unlike(0, 0) = 0 \n unlike(0, 1) = 9 \n dye(0, 0, 9) = 0 \n unlike(0, 0) = 9");
    }

    private static void unlikeThatItHolds() {
        Run run = Run.of("that it holds: nothing more", "doll(5, 0, 0, 2, 1, 0, 0) = 0 \n arm(0, 0, 0, 5, 9, 9) = 0 \n arm(0, 0, 0, 6, 0, 0) = 1");
        run.go("unlike(0, 0) = 0 \n unlike(1, 0) = 2 \n tell(0, 0, 0) = 2 \n unlike(0, 0) = 18 \n tell(0, 0, 1) = 0 \n unlike(0, 0) = 18 \n tell(0, 0, 2) = 1");
        run.is("unlike(0, 0)", 0);
    }

    /** SHADE 7, WEAR 6, a 3: seen as 9 and 9 (GLUED), 9 and 7 (ROBBED), 9 (STAINED); 0 (CAST); 6 (OLD). */
    private static void unlikeIsOfWhatIsSeen() {
        int[] due = {13, 15, 7, 16, 13, 13, 18};
        for (int kind = 0; kind <= 6; kind++) {
            Run run = Run.of("SHADE and WEAR as they are seen", "doll(5, 0, 0, 0, 1, 0, 0) = 0 \n doll(5, 0, 9, 1, 1, 0, 0) = 1");
            run.is("arm(" + kind + ", 3, 0, 5, 7, 6)", 0).is("unlike(0, 0)", due[kind]).is("unlike(0, 1)", due[kind]);
        }
    }

    private static void herAtMost() {
        Run run = Run.of("HER: .. if UNLIKE of the ARMS on her together is BEARS at most", "doll(5, 5, 5, 0, 1, 0, 0) = 0");
        run.go("dollOf(0, 8) = 1 \n arm(0, 0, 0, 5, 5, 5) = 0 \n arm(0, 0, 0, 5, 5, 4) = 1 \n mend(0, 0, 0) = 1 \n dollOf(0, 8) = 1 \n off(0) = 0");
        run.go("mend(1, 0, 0) = 2 \n dollOf(0, 8) = 0 \n tell(0, 2, 1) = 0 \n dollOf(0, 8) = 1 \n dye(1, 1, 3) = 4 \n dollOf(0, 8) = 0");
        run.go("tell(0, 2, 2) = 1 \n dollOf(0, 8) = 1 \n tell(0, 2, 0) = 2 \n dollOf(0, 8) = 0 \n off(1) = 0 \n dollOf(0, 8) = 1");
        // two glued ones, 2 sizes too large, as dark and as worn as can be: 44; 40 are borne at most
        Run most = Run.of("BEARS 40", "doll(0, 0, 0, 0, 1, 0, 40) = 0 \n arm(6, 0, 0, 2, 9, 9) = 0 \n arm(6, 0, 1, 2, 9, 9) = 1");
        most.go("mend(0, 0, 0) = 1 \n dollOf(0, 8) = 1 \n mend(1, 0, 1) = 2 \n dollOf(0, 8) = 0 \n dye(0, 0, 6) = 9 \n dollOf(0, 8) = 0");
        most.go("dye(0, 0, 5) = 6 \n dollOf(0, 8) = 1 \n tell(0, 2, 39) = 40 \n dollOf(0, 8) = 0");
    }

    private static void herTogether() {
        Run run = Run.of("of the ARMS on her together", "doll(5, 5, 5, 0, 1, 0, 5) = 0 \n doll(5, 5, 5, 0, 1, 0, 0) = 1");
        run.go("arm(0, 0, 0, 5, 2, 5) = 0 \n arm(0, 0, 1, 5, 5, 8) = 1 \n mend(0, 0, 0) = 1 \n dollOf(0, 8) = 1 \n mend(1, 0, 1) = 2");
        run.go("dollOf(0, 8) = 0 \n tell(0, 2, 6) = 5 \n dollOf(0, 8) = 1 \n dollOf(1, 8) = 1 \n off(0) = 0 \n tell(0, 2, 2) = 6 \n dollOf(0, 8) = 0");
        run.go("tell(0, 2, 3) = 2 \n dollOf(0, 8) = 1 \n dollOf(0, 9) = -5 \n dollOf(1, -1) = -5");
    }
}
