import java.io.IOException;
import java.util.Map;

/**
 * The document from its first line on, up to promise 1: each sentence word for word, and a run of calls that shows it,
 * with answers reckoned by hand. That no sentence is left out is held against ../shared/DOC.md.
 */
public final class DocumentTermsTest {
    private static final String ARM = "arm 0 0 0 5 5 5";
    private static final String RIGHT = "arm 0 0 1 5 5 5";
    private static final String DOLL = "doll 5 5 5 2 1 0 0";

    public static void main(String[] args) throws IOException {
        whatItIs();
        arms();
        dolls();
        items();
        textsAndFaults();
        looks();
        fitsUnlikeHer();
        mayAndBest();
        whole();
        castTeaComes();
        queueAndFeast();
        shadesAndWears();
        dearestAndSwap();
        toldDayAndInTruth();
        daysByDraws();
        shelves();
        movesOfArmsStainedAndCast();
        movesOfTheOthers();
        bodiesAndTrace();
        refusals();
        refusalsByThemselves();
        details();
        Document.isQuoted("## What it is", "## Promise 1: A new object");
        Due.end("DocumentTermsTest");
    }

    private static void whatItIs() {
        Document.says("Arms in one drawer: a shop for mending dolls, arms by kinds, stained, cast anew, robbed from what was never "
            + "fetched, doubled, old, glued, by side, size, shade and wear; dolls that want one as it was, as new, or that it holds; "
            + "which fits which, how unlike it is, which arm to which doll so that most are whole and look like themselves, what to "
            + "cast anew, how long to stain, whether it is still her, what changes she would bear, how likely who left her comes, "
            + "whom first in the queue, who is done by the feast, which shades a told look allows, whose arm is dearest, told days "
            + "judged, shops read from texts, mends in truth and days by draws.", """
            arm(1, 2, 0, 5, 3, 1) = 0;  doll(5, 6, 1, 0, 7, 4, 0) = 0;  fits(0, 0, 0) = 1;  unlike(0, 0) = 1;  whole(0) = 1
            cast() = 156;  tea(0, 0) = 1;  dye(0, 0, 4) = 3;  unlike(0, 0) = 0;  mend(0, 0, 0) = 7;  dollOf(0, 8) = 1
            comes(0, 1) = 500;  queue(0) = 0;  queue(-1) = 28;  feast(7, 0) = 1;  dearest(0) = -1;  days(2) = 1;  dollOf(0, 7) = 2
            """);
        Run calls = Document.says("An object is used for at most 512 calls after it has been made; what later calls answer is free.");
        for (int i = 1; i <= 512; i++) {
            calls.is("seed(" + (i + 1) + ")", i);
        }
    }

    private static void arms() {
        Run eight = Document.says("ARMS have numbers, from 0 on, 8 at most,");
        for (int i = 0; i < 8; i++) {
            eight.is("arm(0, 0, 0, " + i + ", 0, 0)", i);
        }
        eight.go("arm(0, 0, 0, 9, 0, 0) = -7;  armOf(0, 3) = 0;  armOf(7, 3) = 7;  armOf(8, 3) = -5");
        Run kinds = Document.says("each of a KIND: 0 ARM; 1 STAINED, 2 CAST, 4 DOUBLED, each under ARM; 3 ROBBED, under STAINED; "
            + "5 OLD, under CAST; 6 GLUED, under ROBBED;");
        int[][] taken = {{4, -2, -2, -2, -2, -2, -2}, {4, 7, -2, -2, -2, -2, -2}, {4, -2, 0, -2, -2, -2, -2}, {4, 7, -2, 7, -2, -2, -2},
            {4, -2, -2, -2, 1, -2, -2}, {4, -2, 7, -2, -2, 7, -2}, {4, 7, -2, 7, -2, -2, 7}};
        for (int kind = 0; kind < 7; kind++) {
            kinds.is("arm(" + kind + ", 2, 1, 4, 5, 6)", kind).is("show(0, " + kind + ")", 1).is("armOf(" + kind + ", 0)", kind);
            for (int wanted = 0; wanted < 7; wanted++) {
                kinds.is("says(0, " + wanted + ")", taken[kind][wanted]);
            }
        }
        Document.says("a (0 to 9), SIDE (0 left, 1 right), SIZE (0 to 9), SHADE (0 to 9), WEAR (0 to 9);", """
            arm(6, 0, 0, 0, 0, 0) = 0;  armOf(0, 1) = 0;  armOf(0, 2) = 0;  armOf(0, 3) = 0;  armOf(0, 4) = 0;  armOf(0, 5) = 0
            arm(6, 9, 1, 9, 9, 9) = 1;  armOf(1, 1) = 9;  armOf(1, 2) = 1;  armOf(1, 3) = 9;  armOf(1, 4) = 9;  armOf(1, 5) = 9
            arm(6, 1, 0, 2, 3, 4) = 2;  armOf(2, 1) = 1;  armOf(2, 2) = 0;  armOf(2, 3) = 2;  armOf(2, 4) = 3;  armOf(2, 5) = 4
            arm(6, 10, 0, 2, 3, 4) = -6;  arm(6, 1, 2, 2, 3, 4) = -6;  arm(6, 1, 0, 10, 3, 4) = -6;  arm(6, 1, 0, 2, 10, 4) = -6
            arm(6, 1, 0, 2, 3, 10) = -6;  arm(6, -1, 0, 2, 3, 4) = -6;  arm(6, 1, -1, 2, 3, 4) = -6;  arm(6, 1, 0, -1, 3, 4) = -6
            arm(6, 1, 0, 2, -1, 4) = -6;  arm(6, 1, 0, 2, 3, -1) = -6;  status(0) = 3
            """);
        Document.says("it is in THE DRAWER (at first), or ON a DOLL's side.", """
            arm(0, 0, 1, 5, 5, 5) = 0;  doll(5, 5, 5, 0, 1, 0, 0) = 0;  doll(5, 5, 5, 0, 1, 0, 0) = 1;  armOf(0, 8) = 99
            mend(0, 1, 1) = 1;  armOf(0, 8) = 11;  off(0) = 11;  armOf(0, 8) = 99;  mend(0, 0, 1) = 2;  armOf(0, 8) = 1
            """);
    }

    private static void dolls() {
        Run five = Document.says("DOLLS have numbers, from 0 on, 5 at most:");
        for (int d = 0; d < 5; d++) {
            five.is("doll(" + d + ", 0, 0, 0, 1, 0, 0)", d);
        }
        five.go("doll(5, 0, 0, 0, 1, 0, 0) = -7;  dollOf(0, 0) = 0;  dollOf(4, 0) = 4;  dollOf(5, 0) = -5");
        Document.says("SIZE, SHADE, WEAR (0 to 9), a WISH (0 as it was, 1 as new, 2 that it holds), MINUTES (1 to 99), TEARS (0 to 9), "
            + "BEARS (0 to 40),", """
            doll(0, 0, 0, 0, 1, 0, 0) = 0;  dollOf(0, 0) = 0;  dollOf(0, 1) = 0;  dollOf(0, 2) = 0;  dollOf(0, 3) = 0;  dollOf(0, 4) = 1
            doll(9, 9, 9, 2, 99, 9, 40) = 1;  dollOf(1, 0) = 9;  dollOf(1, 1) = 9;  dollOf(1, 2) = 9;  dollOf(1, 3) = 2;  dollOf(1, 4) = 99
            dollOf(0, 5) = 0;  dollOf(0, 6) = 0;  dollOf(1, 5) = 9;  dollOf(1, 6) = 40
            doll(10, 2, 3, 1, 5, 6, 7) = -6;  doll(1, 10, 3, 1, 5, 6, 7) = -6;  doll(1, 2, 10, 1, 5, 6, 7) = -6;  doll(1, 2, 3, 3, 5, 6, 7) = -6
            doll(1, 2, 3, 1, 100, 6, 7) = -6;  doll(1, 2, 3, 1, 5, 10, 7) = -6;  doll(1, 2, 3, 1, 5, 6, 41) = -6;  doll(1, 2, 3, 1, 0, 6, 7) = -6
            doll(-1, 2, 3, 1, 5, 6, 7) = -6;  doll(1, -1, 3, 1, 5, 6, 7) = -6;  doll(1, 2, -1, 1, 5, 6, 7) = -6;  doll(1, 2, 3, -1, 5, 6, 7) = -6
            doll(1, 2, 3, 1, 5, -1, 7) = -6;  doll(1, 2, 3, 1, 5, 6, -1) = -6;  status(1) = 2
            """);
        Document.says("DAYS left lying (0 to 99; 0 at first),", """
            doll(5, 5, 5, 0, 1, 0, 0) = 0;  dollOf(0, 7) = 0;  tell(0, 3, 99) = 0;  dollOf(0, 7) = 99;  tell(0, 3, 100) = -6;  tell(0, 3, 0) = 99
            tell(0, 3, -1) = -6;  dollOf(0, 7) = 0
            """);
        Document.says("on its left and right side an ARM, or NONE (at first).", """
            doll(5, 5, 5, 0, 1, 0, 0) = 0;  on(0, 0) = -1;  on(0, 1) = -1;  arm(0, 0, 0, 5, 5, 5) = 0;  arm(0, 0, 1, 5, 5, 5) = 1
            mend(1, 0, 1) = 1;  on(0, 0) = -1;  on(0, 1) = 1;  mend(0, 0, 0) = 2;  on(0, 0) = 0;  off(1) = 1;  on(0, 1) = -1
            """);
        Document.says("MENDED, SPENT, TODAY (0 at first).", """
            status(4) = 0;  status(5) = 0;  status(6) = 0;  arm(0, 0, 0, 5, 5, 5) = 0;  doll(5, 5, 5, 0, 12, 0, 0) = 0;  status(4) = 0
            mend(0, 0, 0) = 12;  status(4) = 1;  status(5) = 12;  status(6) = 0;  days(2) = 1;  status(6) = 2
            """);
    }

    private static void items() {
        Document.says("A SHOP is read from a ROW of letters: ITEM, then any number of times ; and ITEM:")
            .shop(ARM, 1).shop(ARM + ";" + DOLL, 2).shop(DOLL + ";" + RIGHT + ";" + ARM, 3).go("status(0) = 4;  status(1) = 2")
            .fault(ARM + ";", 16).fault(";" + ARM, 0).fault(ARM + " " + ARM, 15).fault(ARM + ";;" + ARM, 16).go("status(0) = 4");
        Document.says("arm K A S Z H W (SIDE, SIZE, SHADE, WEAR);").shop("arm 3 8 1 7 6 4", 1)
            .go("armOf(0, 0) = 3;  armOf(0, 1) = 8;  armOf(0, 2) = 1;  armOf(0, 3) = 7;  armOf(0, 4) = 6;  armOf(0, 5) = 4;  armOf(0, 8) = 99");
        Document.says("doll Z H W V M T B (SIZE, SHADE, WEAR, WISH, MINUTES, TEARS, BEARS);").shop("doll 7 6 4 1 98 3 39", 1)
            .go("dollOf(0, 0) = 7;  dollOf(0, 1) = 6;  dollOf(0, 2) = 4;  dollOf(0, 3) = 1;  dollOf(0, 4) = 98;  dollOf(0, 5) = 3")
            .go("dollOf(0, 6) = 39;  dollOf(0, 7) = 0;  on(0, 0) = -1;  on(0, 1) = -1");
        Document.says("on X D (an ARM in THE DRAWER comes on the DOLL, on its own SIDE, which must be empty, and it must FIT: else D's place);")
            .shop(RIGHT + ";arm 4 0 1 6 5 5;arm 0 0 0 7 5 5;arm 0 0 0 6 5 5;" + DOLL + ";on 0 0", 6).go("on(0, 1) = 0;  on(0, 0) = -1")
            .fault("on 0 0", 3).fault("on 1 0", 5).fault("on 2 0", 5).fault("on 3 1", 5).fault("on 4 0", 3).fault("on 0 1", 3)
            .shop("on 3 0", 1).go("on(0, 0) = 3;  off(0) = 1").shop("on 1 0", 1).go("on(0, 1) = 1;  status(4) = 0;  status(5) = 0");
        Document.says("off X (an ARM that is ON a DOLL);").shop(RIGHT + ";" + DOLL + ";on 0 0", 3).is("armOf(0, 8)", 1)
            .shop("off 0", 1).is("armOf(0, 8)", 99).fault("off 0", 4).fault("off 1", 4).shop("on 0 0;off 0;on 0 0", 3).is("armOf(0, 8)", 1);
        Document.says("lies D N (DAYS).").shop(DOLL + ";lies 0 98", 2).is("dollOf(0, 7)", 98).shop("lies 0 3", 1).is("dollOf(0, 7)", 3)
            .fault("lies 1 5", 5).go("dollOf(0, 7) = 3;  status(6) = 0");
    }

    private static void textsAndFaults() {
        Document.says("One blank between words and NUMBERS (1 to 2 digits).").shop("doll 05 5 05 2 01 0 00", 1).go("dollOf(0, 0) = 5;  dollOf(0, 4) = 1")
            .shop("lies 00 09", 1).is("dollOf(0, 7)", 9).shop("lies 0 45", 1).is("dollOf(0, 7)", 45)
            .fault("doll  5", 5).fault("doll5", 4).fault("lies 0 123", 9).fault("lies 0 ", 7).fault("lies 0 x", 7).fault("lies 0 5 ", 8);
        Document.says("All is told over what there is, or nothing (what there is no room for can't stand: its word, once that is whole).")
            .shop(ARM + ";" + DOLL, 2).fault("lies 0 9;on 0 0;off 1", 20).go("dollOf(0, 7) = 0;  on(0, 0) = -1")
            .shop("lies 0 9;on 0 0", 2).go("dollOf(0, 7) = 9;  on(0, 0) = 0")
            .shop(DOLL + ";" + DOLL + ";" + DOLL + ";" + DOLL, 4).is("status(1)", 5)
            .fault("lies 0 8;" + DOLL, 9).fault("lies 0 8;doll", 9).fault("lies 0 8;dol", 12).go("dollOf(0, 7) = 9;  status(17) = 0");
        Document.says("The FAULT: the first place at which an element can't stand as such texts go on (the number of elements, if it ends too early);")
            .fault("arx", 2).fault("ar", 2).fault("arm 0 0 0 5 5", 13).fault("arm 0 x", 6).fault("", 0).fault("lie 0", 3).fault("ox", 1).fault("o", 1)
            .fault(ARM + ";" + DOLL + "07", 35).shop(ARM + ";" + DOLL, 2);
        Document.says("of a NUMBER that may not be the place of its first digit.")
            .fault("arm 0 10 0 0 0 0", 6).fault("arm 7 0 0 0 0 0", 4).fault("arm 07 0 0 0 0 0", 4).fault("doll 5 5 5 0 0 0 0", 13)
            .fault("doll 5 5 5 0 1 0 41", 17).fault("off 33", 4).fault("lies 33 0", 5);
    }

    private static void seen(Run run, int arm, String made, int shade, int wear) {
        run.is("arm(" + made + ")", arm).is("armOf(" + arm + ", 6)", shade).is("armOf(" + arm + ", 7)", wear);
    }

    private static void looks() {
        Run all = Document.says("LOOK of an ARM: its SHADE and WEAR as they are seen.");
        seen(all, 0, "3, 3, 0, 5, 4, 2", 7, 3);
        all.go("armOf(0, 4) = 4;  armOf(0, 5) = 2;  dye(0, 0, 5) = 4;  armOf(0, 6) = 8;  dye(0, 1, 7) = 2;  armOf(0, 7) = 8");
        Run arm = Document.says("ARM: as they are.");
        seen(arm, 0, "0, 9, 0, 5, 4, 2", 4, 2);
        seen(arm, 1, "0, 9, 0, 5, 9, 9", 9, 9);
        Run stained = Document.says("STAINED: SHADE a more (9 at most).");
        seen(stained, 0, "1, 3, 0, 5, 4, 2", 7, 2);
        seen(stained, 1, "1, 5, 0, 5, 4, 9", 9, 9);
        seen(stained, 2, "1, 6, 0, 5, 4, 0", 9, 0);
        seen(stained, 3, "1, 0, 0, 5, 4, 0", 4, 0);
        Run robbed = Document.says("ROBBED: as STAINED, WEAR 1 more (9 at most).");
        seen(robbed, 0, "3, 3, 0, 5, 4, 2", 7, 3);
        seen(robbed, 1, "3, 3, 0, 5, 7, 8", 9, 9);
        seen(robbed, 2, "3, 3, 0, 5, 6, 9", 9, 9);
        Run glued = Document.says("GLUED: as ROBBED, WEAR a more (9 at most).");
        seen(glued, 0, "6, 3, 0, 5, 4, 2", 7, 6);
        seen(glued, 1, "6, 0, 0, 5, 4, 2", 4, 3);
        seen(glued, 2, "6, 5, 0, 5, 4, 3", 9, 9);
        seen(glued, 3, "6, 9, 0, 5, 4, 2", 9, 9);
        Run cast = Document.says("CAST: WEAR 0.");
        seen(cast, 0, "2, 9, 0, 5, 4, 7", 4, 0);
        Run old = Document.says("OLD: as CAST, but WEAR 9 less a.");
        seen(old, 0, "5, 0, 0, 5, 4, 2", 4, 9);
        seen(old, 1, "5, 4, 0, 5, 7, 2", 7, 5);
        seen(old, 2, "5, 9, 0, 5, 9, 2", 9, 0);
        Run doubled = Document.says("DOUBLED: as ARM.");
        seen(doubled, 0, "4, 9, 0, 5, 4, 2", 4, 2);
    }

    private static void fitsUnlikeHer() {
        Document.says("FITS: an ARM on a SIDE of a DOLL, if it is of that SIDE (DOUBLED: of either), and their SIZES are at most 1 apart (GLUED: 2).", """
            doll(5, 0, 0, 0, 1, 0, 0) = 0;  arm(0, 0, 0, 6, 0, 0) = 0;  fits(0, 0, 0) = 1;  fits(0, 0, 1) = 0
            arm(4, 0, 0, 4, 0, 0) = 1;  fits(1, 0, 0) = 1;  fits(1, 0, 1) = 1;  arm(4, 0, 0, 7, 0, 0) = 2;  fits(2, 0, 0) = 0;  fits(2, 0, 1) = 0
            arm(0, 0, 1, 7, 0, 0) = 3;  fits(3, 0, 1) = 0;  arm(6, 0, 1, 7, 0, 0) = 4;  fits(4, 0, 1) = 1;  fits(4, 0, 0) = 0
            arm(6, 0, 0, 3, 0, 0) = 5;  fits(5, 0, 0) = 1;  arm(6, 0, 0, 2, 0, 0) = 6;  fits(6, 0, 0) = 0;  arm(3, 0, 0, 3, 0, 0) = 7;  fits(7, 0, 0) = 0
            """);
        Document.says("UNLIKE of an ARM and a DOLL: twice how far their SIZES are apart, and by WISH:", """
            doll(5, 5, 5, 2, 1, 0, 0) = 0;  arm(0, 0, 0, 5, 5, 5) = 0;  arm(0, 0, 0, 7, 5, 5) = 1;  arm(0, 0, 0, 2, 5, 5) = 2
            unlike(0, 0) = 0;  unlike(1, 0) = 4;  unlike(2, 0) = 6;  tell(0, 0, 1) = 2;  unlike(0, 0) = 5;  unlike(1, 0) = 9;  unlike(2, 0) = 11
            """);
        String arms = "arm(0, 0, 0, 5, 1, 8) = 0;  arm(3, 2, 0, 5, 5, 8) = 1;  arm(5, 2, 0, 6, 3, 3) = 2;  arm(2, 0, 0, 5, 4, 9) = 3";
        // seen: 1 and 8; 7 and 9; 3 and 7; 4 and 0
        Document.says("as it was: how far the SHADES (as seen) and the WEARS (as seen) are apart, together;", arms)
            .go("doll(5, 4, 6, 0, 1, 0, 0) = 0;  unlike(0, 0) = 5;  unlike(1, 0) = 6;  unlike(2, 0) = 4;  unlike(3, 0) = 6");
        Document.says("as new: how far the SHADES are apart, and the WEAR as it is seen;", arms)
            .go("doll(5, 4, 6, 1, 1, 0, 0) = 0;  unlike(0, 0) = 11;  unlike(1, 0) = 12;  unlike(2, 0) = 10;  unlike(3, 0) = 0");
        Document.says("that it holds: nothing more.", arms)
            .go("doll(5, 4, 6, 2, 1, 0, 0) = 0;  unlike(0, 0) = 0;  unlike(1, 0) = 0;  unlike(2, 0) = 2;  unlike(3, 0) = 0");
        Document.says("HER: a DOLL is still herself, if UNLIKE of the ARMS on her together is BEARS at most.", """
            doll(5, 5, 5, 0, 1, 0, 7) = 0;  arm(0, 0, 0, 5, 2, 5) = 0;  arm(0, 0, 1, 5, 9, 5) = 1;  dollOf(0, 8) = 1;  mend(0, 0, 0) = 1
            dollOf(0, 8) = 1;  mend(1, 0, 1) = 2;  dollOf(0, 8) = 1;  tell(0, 2, 6) = 7;  dollOf(0, 8) = 0;  off(1) = 1;  dollOf(0, 8) = 1
            tell(0, 2, 2) = 6;  dollOf(0, 8) = 0;  off(0) = 0;  dollOf(0, 8) = 1;  mend(1, 0, 1) = 3;  dollOf(0, 8) = 0
            """);
    }

    /**
     * By UNLIKE: arm 0: 4 of doll 0, 5 of 1; arm 1: 0 of 0 (it doesn't fit 1); arm 2, doubled: 0 of 1 (it doesn't fit 0);
     * arm 3: 10 of 0, 13 of 1. Left are 0, 1 and 2, right 2 and 3.
     */
    private static Run four(Run run) {
        return run.go("""
            doll(5, 5, 0, 0, 30, 2, 9) = 0;  doll(7, 2, 4, 1, 10, 1, 5) = 1
            arm(0, 0, 0, 6, 4, 1) = 0;  arm(1, 2, 0, 5, 3, 0) = 1;  arm(4, 0, 1, 7, 2, 0) = 2;  arm(6, 1, 1, 6, 7, 3) = 3
            unlike(0, 0) = 4;  unlike(0, 1) = 5;  unlike(1, 0) = 0;  unlike(2, 1) = 0;  unlike(3, 0) = 10;  unlike(3, 1) = 13
            """);
    }

    private static void mayAndBest() {
        four(Document.says("MAY: ARMS (bits) in THE DRAWER that FIT a SIDE of a DOLL that is empty (0 if it isn't).")).go("""
            may(0, 0) = 3;  may(0, 1) = 8;  may(1, 0) = 5;  may(1, 1) = 12;  mend(0, 0, 0) = 30;  may(0, 0) = 0;  may(1, 0) = 4
            off(0) = 0;  may(0, 0) = 3;  may(1, 0) = 5
            """);
        four(Document.says("BEST: of those the one least UNLIKE, of several the first; NONE.")).go("""
            best(0, 0) = 1;  best(0, 1) = 3;  best(1, 0) = 2;  best(1, 1) = 2
            dye(0, 0, 5) = 4;  dye(1, 1, 3) = 0;  unlike(0, 0) = 3;  unlike(1, 0) = 3;  best(0, 0) = 0
            mend(0, 0, 0) = 30;  best(0, 0) = -1;  mend(2, 1, 1) = 40;  best(1, 0) = -1
            """);
    }

    private static void whole() {
        four(Document.says("WHOLE: ARMS in THE DRAWER to empty SIDES, as many as can be, and of such partings the least UNLIKE together: how many; the UNLIKE;"))
            .go("whole(0) = 4;  whole(1) = 15;  given(0) = 1;  given(1) = 3;  given(2) = 0;  given(3) = 2")
            // without 1 the left of doll 0 takes 0, so that the other doll keeps 2 alone: 4, 10 and 0
            .go("mend(1, 0, 0) = 30;  off(1) = 0;  dye(1, 0, 9) = 3;  whole(1) = 19;  mend(2, 1, 0) = 40;  whole(0) = 2;  whole(1) = 14");
        Document.says("which ARM the i-th SIDE has (SIDES by DOLLS, left ahead of right; of several partings the first by rows, "
            + "NONE behind all ARMS; NONE also if it isn't empty).", """
            doll(5, 5, 5, 2, 1, 0, 0) = 0;  doll(5, 5, 5, 2, 1, 0, 0) = 1;  given(0) = -1;  given(3) = -1
            arm(4, 0, 0, 5, 5, 5) = 0;  given(0) = 0;  given(1) = -1;  given(2) = -1;  given(3) = -1
            arm(0, 0, 0, 5, 5, 5) = 1;  given(0) = 0;  given(1) = -1;  given(2) = 1;  given(3) = -1
            arm(4, 0, 0, 5, 5, 5) = 2;  given(0) = 0;  given(1) = 2;  given(2) = 1;  given(3) = -1
            mend(0, 0, 0) = 1;  given(0) = -1;  given(1) = 2;  given(2) = 1;  given(3) = -1
            """);
    }

    private static void castTeaComes() {
        Run cast = four(Document.says("CAST anew: an ARM more (KIND 0) of a SIDE, SIZE, SHADE, WEAR 0, by which most SIDES can be filled then, and of "
            + "these least UNLIKE: 100 times SIDE, 10 times SIZE and SHADE, of several the least."));
        // all four sides are filled: one anew like doll 0 on her right takes 10 off; with 3 on there, 5 on the left of doll 1 (or on her right)
        cast.go("cast() = 155;  mend(3, 0, 1) = 30;  cast() = 72;  mend(0, 1, 0) = 40;  cast() = 0;  off(3) = 1;  mend(2, 1, 1) = 50;  cast() = 155");
        // she looks for no shade; then her right is empty too, and one arm fills but one side
        cast.go("tell(0, 0, 2) = 0;  cast() = 150;  off(2) = 11;  cast() = 150;  dye(3, 0, 0) = 7;  cast() = 150;  status(0) = 4");
        Document.says("TEA: minutes (0 to 9), each of which makes SHADE of an ARM 1 more (9 at most), by which UNLIKE of it and a DOLL is least, of several the least.", """
            doll(5, 6, 0, 0, 1, 0, 0) = 0;  doll(5, 9, 0, 0, 1, 0, 0) = 1;  arm(0, 0, 0, 5, 2, 0) = 0;  tea(0, 0) = 4;  tea(0, 1) = 7
            arm(1, 3, 0, 5, 1, 0) = 1;  tea(1, 0) = 2;  tea(1, 1) = 5;  arm(0, 0, 0, 5, 8, 0) = 2;  tea(2, 0) = 0;  tea(2, 1) = 1
            arm(1, 9, 0, 5, 0, 0) = 3;  tea(3, 0) = 0;  tea(3, 1) = 0;  arm(0, 0, 0, 5, 0, 0) = 4;  tea(4, 0) = 6;  tea(4, 1) = 9
            tell(1, 0, 2) = 0;  tea(4, 1) = 0;  tell(1, 0, 1) = 2;  tea(4, 1) = 9;  armOf(4, 4) = 0
            """);
        Document.says("COMES: how likely who left a DOLL comes within n DAYS (0 to 99): 1000 times n by DAYS, n and 1 together (cut).", """
            doll(5, 6, 0, 0, 1, 0, 0) = 0;  comes(0, 1) = 500;  comes(0, 2) = 666;  comes(0, 0) = 0;  comes(0, 99) = 990;  tell(0, 3, 3) = 0
            comes(0, 4) = 500;  comes(0, 99) = 961;  comes(0, 1) = 200;  tell(0, 3, 99) = 3;  comes(0, 99) = 497;  comes(0, 100) = -6;  comes(0, -1) = -6
            """);
    }

    private static void queueAndFeast() {
        String dolls = "doll(0, 0, 0, 0, 20, 2, 0) = 0;  doll(0, 0, 0, 0, 10, 1, 0) = 1;  doll(0, 0, 0, 0, 5, 3, 0) = 2";
        // 3 * 5 + 2 * 25 + 35, as much as 3 * 5 + 15 + 2 * 35; with 1 tear of doll 0 the latter is less
        Document.says("QUEUE: DOLLS one behind the other, each after MINUTES of those ahead and its own, so that TEARS times that, all together, are "
            + "least: how much; the i-th, of several the first by rows.", dolls)
            .go("queue(-1) = 100;  queue(0) = 2;  queue(1) = 0;  queue(2) = 1;  tell(0, 1, 1) = 2;  queue(-1) = 65;  queue(0) = 2;  queue(1) = 1;  queue(2) = 0");
        Document.says("FEAST: of DOLLS that can be done in a time (0 to 400 minutes) those with most TEARS together, of several the least as bits: bits; TEARS.", dolls)
            .go("feast(4, 0) = 0;  feast(4, 1) = 0;  feast(5, 0) = 4;  feast(15, 0) = 6;  feast(15, 1) = 4;  feast(20, 0) = 6;  feast(25, 0) = 5;  feast(25, 1) = 5")
            .go("feast(34, 0) = 5;  feast(35, 0) = 7;  feast(35, 1) = 6;  feast(400, 0) = 7;  feast(0, 0) = 0;  feast(401, 0) = -6;  feast(-1, 0) = -6")
            .go("tell(0, 1, 4) = 2;  feast(20, 0) = 1;  feast(20, 1) = 4;  feast(19, 0) = 6;  tell(1, 1, 0) = 1;  feast(400, 0) = 5;  feast(15, 0) = 4");
    }

    private static void shadesAndWears() {
        String shop = "arm(0, 0, 0, 5, 3, 2) = 0;  doll(5, 4, 2, 0, 1, 0, 0) = 0;  doll(6, 6, 0, 1, 1, 0, 0) = 1;  arm(1, 9, 0, 5, 3, 2) = 1";
        // by shade h: of doll 0 |h - 4|, of doll 1 4 and |h - 6|; the stained one is always seen as 9
        Document.says("SHADES (bits 0 to 9) of an ARM that FIT a ROW of its UNLIKE to all DOLLS, by numbers.", shop)
            .fill(0, 1, 5).is("looks(0, 0, 0)", 32).fill(0, 1, 7).is("looks(0, 0, 0)", 8).fill(0, 1, 6).is("looks(0, 0, 0)", 0)
            .fill(0, 5, 1).is("looks(0, 0, 0)", 0).fill(0, 4, 10).is("looks(0, 0, 0)", 1).fill(0, 5, 7).is("looks(0, 0, 0)", 512)
            .is("looks(0, 1, 0)", 1023).is("armOf(0, 4)", 3);
        // by wear w: of doll 0 1 and |w - 2|, of doll 1 5 and w
        Document.says("WEARS (bits 0 to 9) likewise.", shop)
            .fill(0, 2, 6).is("looks(0, 0, 1)", 2).fill(0, 2, 8).is("looks(0, 0, 1)", 8).fill(0, 1, 7).is("looks(0, 0, 1)", 4)
            .fill(0, 8, 14).is("looks(0, 0, 1)", 512).fill(0, 3, 5).is("looks(0, 0, 1)", 1).fill(0, 3, 8).is("looks(0, 0, 1)", 0)
            .go("tell(0, 0, 2) = 0;  tell(1, 0, 2) = 1").fill(0, 0, 2).is("looks(0, 0, 1)", 1023).is("armOf(0, 5)", 2);
    }

    private static void dearestAndSwap() {
        Run dearest = Document.says("DEAREST: the ARM in THE DRAWER without which WHOLE has fewest SIDES, then most UNLIKE, of several the first; NONE: it is empty.");
        // three sides without any: 10 without 0, 14 without 1, 15 without 2, 5 without 3; then two: 10, 14 and 5; then one: 0 and 4
        four(dearest.is("dearest(0)", -1)).go("dearest(0) = 2;  mend(2, 1, 1) = 10;  dearest(0) = 1;  mend(3, 0, 1) = 40;  dearest(0) = 1");
        dearest.go("mend(1, 0, 0) = 70;  dearest(0) = 0;  mend(0, 1, 0) = 80;  dearest(0) = -1;  off(3) = 1;  dearest(0) = 3;  off(1) = 0;  dearest(0) = 1");
        // none of them is needed: the first; fewer sides count ahead of what is more unlike
        Run.of("DEAREST: of several the first", "doll(5, 5, 0, 0, 1, 0, 0) = 0;  arm(0, 0, 0, 9, 0, 0) = 0;  arm(0, 0, 1, 1, 0, 0) = 1;  dearest(0) = 0")
            .go("arm(0, 0, 0, 5, 5, 9) = 2;  arm(0, 0, 0, 5, 5, 0) = 3;  dearest(0) = 3;  arm(0, 0, 1, 5, 5, 0) = 4;  dearest(0) = 4;  mend(4, 0, 1) = 1;  dearest(0) = 3");
        Document.says("SWAP: the two ARMS ON DOLLS, of one SIDE (as they are on), by whose change UNLIKE together is least, both FITTING, and less "
            + "than now, of several the first: 10 times the lesser and the other; NONE.", """
            doll(5, 1, 0, 0, 1, 0, 0) = 0;  doll(5, 8, 0, 0, 1, 0, 0) = 1;  dearest(1) = -1;  arm(0, 0, 0, 5, 8, 0) = 0;  arm(0, 0, 0, 5, 2, 0) = 1
            arm(0, 0, 1, 5, 3, 0) = 2;  arm(0, 0, 1, 5, 2, 0) = 3;  mend(0, 0, 0) = 1;  mend(1, 1, 0) = 2;  mend(2, 0, 1) = 3;  mend(3, 1, 1) = 4
            dearest(1) = 1;  off(0) = 0;  dearest(1) = 23;  off(1) = 10;  mend(1, 0, 0) = 5;  mend(0, 1, 0) = 6;  dearest(1) = 23
            off(2) = 1;  off(3) = 11;  mend(3, 0, 1) = 7;  mend(2, 1, 1) = 8;  dearest(1) = -1
            """);
        // 9 and 9 would be 2 and 2, but 1 doesn't fit; then all three do, and two ways are as good; then one is on the other side
        Run.of("SWAP: both FITTING, of several the first, of one SIDE (as they are on)", """
            doll(5, 1, 0, 0, 1, 0, 0) = 0;  doll(7, 8, 0, 0, 1, 0, 0) = 1;  doll(7, 8, 0, 0, 1, 0, 0) = 2
            arm(0, 0, 0, 6, 8, 0) = 0;  arm(0, 0, 0, 8, 1, 0) = 1;  mend(0, 0, 0) = 1;  mend(1, 1, 0) = 2;  dearest(1) = -1;  off(1) = 10
            arm(4, 0, 1, 6, 1, 0) = 2;  arm(4, 0, 0, 6, 1, 0) = 3;  mend(2, 1, 0) = 3;  dearest(1) = 2;  mend(3, 2, 0) = 4;  dearest(1) = 2
            dye(3, 0, 0) = 1;  dearest(1) = 2;  dye(3, 0, 1) = 0;  off(2) = 10;  dearest(1) = 3;  mend(2, 1, 1) = 5;  dearest(1) = 3
            off(3) = 20;  mend(3, 2, 1) = 6;  dearest(1) = -1
            """);
    }

    private static void toldDayAndInTruth() {
        Run day = four(Document.says("A told DAY: a ROW of twos (an ARM; 10 times a DOLL and the SIDE): WRONG: the first two that can't be: the ARM isn't in "
            + "THE DRAWER by then, the SIDE isn't empty, it doesn't FIT; NONE."));
        day.fill(0, 1, 0, 3, 1, 2, 11, 0, 10).go("judge(0, 4) = -1;  judge(0, 0) = -1").fill(0, 0, 0, 0, 10).go("judge(0, 2) = 1;  judge(0, 1) = -1");
        day.fill(0, 1, 0, 0, 0).is("judge(0, 2)", 1).fill(0, 2, 0, 1, 0).is("judge(0, 2)", 0).fill(0, 2, 10, 3, 11, 0, 1).is("judge(0, 3)", 2);
        day.fill(0, 4, 0).is("judge(0, 1)", 0).fill(0, 1, 20).is("judge(0, 1)", 0).fill(0, 1, 2).is("judge(0, 1)", 0).fill(0, 1, -10).is("judge(0, 1)", 0);
        day.go("mend(1, 0, 0) = 30").fill(0, 1, 0).is("judge(0, 1)", 0).fill(0, 0, 0).is("judge(0, 1)", 0).fill(0, 0, 10).is("judge(0, 1)", -1);
        Run behind = four(Document.says("BEHIND it: how many DOLLS have both ARMS; UNLIKE of all that are on together; how many DOLLS are HER."));
        behind.fill(0, 1, 0, 3, 1, 2, 11, 0, 10).go("""
            behind(0, 0, 0) = 0;  behind(0, 0, 1) = 0;  behind(0, 0, 2) = 2;  behind(0, 1, 0) = 0;  behind(0, 1, 1) = 0;  behind(0, 1, 2) = 2
            behind(0, 2, 0) = 1;  behind(0, 2, 1) = 10;  behind(0, 2, 2) = 1;  behind(0, 4, 0) = 2;  behind(0, 4, 1) = 15;  behind(0, 4, 2) = 1
            tell(1, 2, 4) = 5;  behind(0, 3, 2) = 1;  behind(0, 4, 2) = 0;  status(2) = 4
            """);
        Run truth = four(Document.says("IN TRUTH: a MEND (SPENT: MINUTES of the DOLL more; MENDED 1 more); taking off; a told DAY."));
        truth.fill(0, 1, 0, 3, 1, 2, 11, 0, 10).go("""
            mend(1, 0, 0) = 30;  status(4) = 1;  status(5) = 30;  off(1) = 0;  status(4) = 1;  status(5) = 30;  on(0, 0) = -1;  done(0, 4) = 5
            status(5) = 110;  on(0, 0) = 1;  on(0, 1) = 3;  on(1, 0) = 0;  on(1, 1) = 2;  status(3) = 2;  status(2) = 0;  status(6) = 0
            """);
    }

    /** From SEED 1 the draws are 16838, 38526, 10113; 50283, 63819, 38395; 55778, 40187, 48980. */
    private static void daysByDraws() {
        Document.says("DAYS by draws, n times: DAYS of all DOLLS 1 more (99 at most), TODAY 1 more;", """
            doll(5, 0, 0, 0, 1, 0, 0) = 0;  doll(5, 0, 0, 0, 1, 0, 0) = 1;  arm(0, 0, 0, 0, 0, 0) = 0;  tell(1, 3, 97) = 0;  days(1) = 0
            dollOf(0, 7) = 1;  dollOf(1, 7) = 98;  status(6) = 1;  days(3) = 0;  dollOf(0, 7) = 4;  dollOf(1, 7) = 99;  status(6) = 4
            """);
        // arm 0, doll 0, right; arm 1, doll 1, right; arm 0 (it is on doll 0), doll 1, left
        Document.says("an ARM (a DRAW below how many), a DOLL (a DRAW below how many), a SIDE (a DRAW below 2): if the ARM is in THE DRAWER, FITS and "
            + "the SIDE is empty, a MEND; if it is ON that DOLL, there, it comes off.", """
            arm(4, 0, 0, 5, 0, 0) = 0;  arm(4, 0, 0, 5, 0, 0) = 1;  doll(5, 0, 0, 0, 8, 0, 0) = 0;  doll(5, 0, 0, 0, 9, 0, 0) = 1
            days(1) = 1;  on(0, 1) = 0;  status(5) = 8;  days(1) = 2;  on(1, 1) = 1;  status(5) = 17;  days(1) = 2;  on(0, 1) = 0;  on(1, 0) = -1
            status(7) = -1084965762;  seed(1) = -1084965762;  days(1) = 2;  armOf(0, 8) = 99;  on(0, 1) = -1;  days(1) = 2;  armOf(1, 8) = 99
            days(1) = 3;  armOf(0, 8) = 10;  status(5) = 26;  status(6) = 6
            """);
        Document.says("A DRAW below n: SEED (1 at first) becomes SEED times 1103515245, and 12345 (an int, wrapping); its upper 16 bits, no sign, modulo n.", """
            arm(4, 0, 0, 5, 0, 0) = 0;  arm(4, 0, 0, 5, 0, 0) = 1;  arm(4, 0, 0, 5, 0, 0) = 2;  status(7) = 1
            doll(5, 0, 0, 0, 1, 0, 0) = 0;  doll(5, 0, 0, 0, 1, 0, 0) = 1;  doll(5, 0, 0, 0, 1, 0, 0) = 2;  doll(5, 0, 0, 0, 1, 0, 0) = 3
            doll(5, 0, 0, 0, 1, 0, 0) = 4;  days(1) = 1;  armOf(2, 8) = 11;  status(7) = 662824084
            days(1) = 2;  armOf(0, 8) = 41;  status(7) = -1778682749
            """);
    }

    private static void shelves() {
        Document.says("SHELVES 0 to 7 hold NOTHING (at first), a ROW, or an ARM.")
            .each("holds(#)", -1, 0, 1, 2, 3, 4, 5, 6, 7).go("arm(0, 0, 0, 5, 5, 5) = 0;  row(0, 1, 2) = 1;  show(7, 0) = 1;  holds(0) = 101;  holds(7) = 0")
            .go("show(0, 0) = 1;  row(7, 3, 2) = 1;  holds(0) = 0;  holds(7) = 103;  row(8, 0, 1) = -1;  show(-1, 0) = -1");
        Document.says("A ROW has a SORT (0 bytes, 1 shorts, 2 ints, 3 longs) and 0 to 160 elements, 0 at first; what is put in keeps its lowest bits.", """
            row(0, 0, 160) = 1;  row(1, 1, 160) = 1;  row(2, 2, 160) = 1;  row(3, 3, 160) = 1;  element(0, 159) = 0;  element(3, 0) = 0
            set(0, 159, 0x1234567890ABCDEF) = 1;  set(1, 159, 0x1234567890ABCDEF) = 1;  set(2, 159, 0x1234567890ABCDEF) = 1;  set(3, 159, 0x1234567890ABCDEF) = 1
            element(0, 159) = -17;  element(1, 159) = -12817;  element(2, 159) = -1867788817;  element(3, 159) = 0x1234567890ABCDEF
            row(0, 0, 161) = -7;  row(0, 4, 1) = -6;  row(0, -1, 1) = -6;  row(0, 0, 0) = 1;  set(0, 0, 1) = -5;  row(3, 3, 160) = 1;  element(3, 159) = 0
            """);
        Run ints = Document.says("All is read as ints (of longs the lowest 32 bits).");
        ints.go("arm(0, 0, 1, 5, 4, 0) = 0;  doll(5, 6, 0, 0, 3, 0, 0) = 0;  row(0, 3, 2) = 1;  set(0, 0, 0x700000002) = 1;  looks(0, 0, 0) = " + (1 << 4 | 1 << 8));
        ints.go("row(1, 3, 2) = 1;  set(1, 0, 0x100000000) = 1;  set(1, 1, -4294967295) = 1;  judge(1, 1) = -1;  behind(1, 1, 1) = 2;  done(1, 1) = 1;  armOf(0, 8) = 1");
        ints.is("row(2, 3, 5)", 1);
        for (int i = 0; i < 5; i++) {
            ints.is("set(2, " + i + ", " + ("off 0".charAt(i) - (1L << 32 << i)) + ")", 1);
        }
        ints.go("shop(2) = 1;  armOf(0, 8) = 99");
    }

    private static final int BENDS = 0;
    private static final int WAVES = 1;
    private static final int DROPS = 2;

    /** Of each kind one, its number as its kind; a plain one is 7 (and 0, whose number tells nothing). */
    private static Run kinds(Run run) {
        return run.go("""
            arm(0, 0, 0, 5, 5, 5) = 0;  arm(1, 2, 0, 5, 5, 5) = 1;  arm(2, 4, 0, 5, 5, 5) = 2;  arm(3, 5, 0, 5, 5, 5) = 3
            arm(4, 1, 0, 5, 5, 5) = 4;  arm(5, 6, 0, 5, 5, 5) = 5;  arm(6, 2, 0, 5, 5, 5) = 6;  arm(0, 3, 0, 5, 5, 5) = 7
            """);
    }

    /** A move with 10: what it answers, and the bodies that ran. */
    private static void acts(Run run, int arm, int move, int due, int... bodies) {
        run.is("act(" + arm + ", " + move + ", 10)", due).is("status(8)", bodies.length);
        for (int i = 0; i < bodies.length; i++) {
            run.is("trace(" + i + ")", bodies[i]);
        }
        run.is("trace(" + bodies.length + ")", -1);
    }

    private static void movesOfArmsStainedAndCast() {
        kinds(Document.says("MOVES of ARMS, with x (wrapping): 0 bends, 1 waves, 2 drops; m the number, k its a."))
            .go("act(7, 0, 10) = 17;  act(7, 1, 10) = 34;  act(7, 2, 10) = 44;  act(7, 0, 2147483647) = -2147483642;  act(7, 1, 2147483640) = -2;  act(7, 3, 10) = 0");
        acts(kinds(Document.says("BODIES, each with its number: ARM: 10 bends: x + m.")), 7, BENDS, 17, 10);
        acts(kinds(Document.says("11 waves: bends(x) * 2.")), 7, WAVES, 34, 11, 10);
        acts(kinds(Document.says("12 drops: waves(x) ^ bends(x - k).")), 7, DROPS, 34 ^ 14, 12, 11, 10, 10);
        Run stained = kinds(Document.says("STAINED: 20 bends: super.bends(x) + k."));
        acts(stained, 1, BENDS, 11 + 2, 20, 10);
        acts(stained, 1, WAVES, 26, 11, 20, 10);
        acts(stained, 1, DROPS, 26 ^ 11, 12, 11, 20, 10, 20, 10);
        Run cast = kinds(Document.says("CAST: 30 waves: super.waves(x) * 3."));
        acts(cast, 2, BENDS, 12, 10);
        acts(cast, 2, WAVES, 24 * 3, 30, 11, 10);
        acts(cast, 2, DROPS, 72 ^ 8, 12, 30, 11, 10, 10);
    }

    private static void movesOfTheOthers() {
        Run robbed = kinds(Document.says("ROBBED: 40 bends: super.bends(x + 1)."));
        acts(robbed, 3, BENDS, 11 + 3 + 5, 40, 20, 10);
        acts(robbed, 3, WAVES, 38, 11, 40, 20, 10);
        acts(robbed, 3, DROPS, 38 ^ 14, 12, 11, 40, 20, 10, 40, 20, 10);
        acts(kinds(Document.says("DOUBLED: 50 drops: -super.drops(x).")), 4, DROPS, -(20 ^ 9), 50, 12, 11, 51, 10, 51, 10);
        Run doubled = kinds(Document.says("51 bends: super.bends(x) - m."));
        acts(doubled, 4, BENDS, 14 - 4, 51, 10);
        acts(doubled, 4, WAVES, 20, 11, 51, 10);
        acts(kinds(Document.says("OLD: 60 drops: super.drops(x) ^ 5.")), 5, DROPS, 90 ^ 9 ^ 5, 60, 12, 30, 11, 10, 10);
        acts(kinds(Document.says("GLUED: 70 bends: super.bends(x) * 2.")), 6, BENDS, (11 + 6 + 2) * 2, 70, 40, 20, 10);
        acts(kinds(Document.says("71 waves: super.waves(x - k).")), 6, WAVES, (9 + 6 + 2) * 2 * 2, 71, 11, 70, 40, 20, 10);
    }

    private static void bodiesAndTrace() {
        Run bodies = kinds(Document.says("bends(..) and so on: the body of the ARM's KIND, or of the next KIND above that has one; super: from the KIND above the body's on."));
        acts(bodies, 5, BENDS, 15, 10);
        acts(bodies, 5, WAVES, 90, 30, 11, 10);
        acts(bodies, 6, DROPS, 68 ^ 34, 12, 71, 11, 70, 40, 20, 10, 70, 40, 20, 10);
        Run trace = kinds(Document.says("THE TRACE: the numbers of the bodies that ran in the latest act(), in the order in which they began; the first 20 are kept."));
        trace.each("trace(#)", -1, 0, 19, 20);
        acts(trace, 6, DROPS, 102, 12, 71, 11, 70, 40, 20, 10, 70, 40, 20, 10);
        trace.go("unlike(0, 0) = -1;  trace(1) = 71;  trace(-1) = -1;  trace(19) = -1;  trace(20) = -1");
        acts(trace, 7, WAVES, 34, 11, 10);
        trace.go("act(8, 0, 10) = 0;  trace(0) = -1;  status(8) = 0");
    }

    private static void refusals() {
        Run run = Document.says("REFUSALS (the call answers the number; nothing changes but how many there were; the first that fits, in this order):");
        run.go("arm(0, 0, 0, 5, 5, 5) = 0;  doll(5, 5, 5, 0, 1, 0, 0) = 0;  show(1, 0) = 1;  row(2, 1, 3) = 1;  set(2, 2, 7) = 1;  image() = 1;  mend(0, 0, 0) = 1");
        Map<String, Long> was = run.told();
        run.go("""
            row(8, 4, -1) = -1;  row(2, 4, -1) = -4;  row(2, 4, 161) = -6;  row(2, 1, 161) = -7;  copy(8, 1, -1, 0, -1) = -1;  copy(1, 0, -1, 0, -1) = -2
            copy(2, 0, -1, 0, -1) = -3;  copy(2, 2, -1, 0, -1) = -4;  copy(2, 2, -1, 0, 0) = -5;  judge(8, -1) = -11;  judge(1, -1) = -12;  judge(0, -1) = -13
            judge(2, -1) = -14;  judge(2, 21) = -15;  behind(2, 1, 3) = -5;  behind(2, 1, 0) = -6;  done(2, 1) = -6;  looks(1, 1, 2) = -1;  looks(1, 0, 2) = -2
            looks(0, 0, 2) = -3;  looks(2, 0, 2) = -5;  mend(1, 1, 2) = -1;  mend(0, 0, 2) = -6;  feast(401, 2) = -5;  feast(401, 0) = -6;  days(0) = -6
            """);
        Due.holds("nothing changes", run.told().equals(was));
        run.go("status(11) = 5;  status(12) = 3;  status(13) = 3;  status(14) = 3;  status(15) = 5;  status(16) = 6;  status(17) = 1;  restore() = 1;  armOf(0, 8) = 99");
        // the image has no refusals
        run.go("status(11) = 5;  status(12) = 3;  status(13) = 3;  status(14) = 3;  status(15) = 5;  status(16) = 6;  status(17) = 1");
    }

    private static void refusalsByThemselves() {
        Document.says("-1 NOBODY: no such SHELF, ARM, DOLL, KIND.", "set(8, 0, 0) = -1;  dye(0, 0, 0) = -1;  tell(0, 0, 0) = -1;  arm(7, 0, 0, 0, 0, 0) = -1;  status(11) = 4");
        Document.says("-2 OTHER: a SHELF that holds an ARM where a ROW is wanted, or the other way about, ROWS of two SORTS, an ARM that isn't of the KIND wanted, or one under it.", """
            arm(0, 0, 0, 5, 5, 5) = 0;  show(0, 0) = 1;  set(0, 0, 1) = -2;  row(1, 0, 1) = 1;  says(1, 0) = -2;  row(2, 1, 1) = 1;  copy(1, 2, 0, 0, 1) = -2
            says(0, 0) = 5;  says(0, 1) = -2;  status(12) = 4
            """);
        Document.says("-3 NOTHING: a SHELF that holds NOTHING.", "set(0, 0, 1) = -3;  says(0, 0) = -3;  shop(0) = -3;  copy(0, 0, 0, 0, 0) = -3;  status(13) = 4");
        Document.says("-4 BELOW: a size below 0.", """
            row(0, 0, -1) = -4;  row(0, 0, 1) = 1;  copy(0, 0, 0, 0, -1) = -4;  judge(0, -1) = -14;  behind(0, -1, 0) = -4;  done(0, -1) = -4;  status(14) = 5
            """);
        Document.says("-5 BEYOND: an element that isn't there; nothing such to be told of.", """
            row(0, 0, 1) = 1;  set(0, 1, 0) = -5;  copy(0, 0, 1, 0, 1) = -5;  armOf(0, 0) = -5;  whole(2) = -5;  queue(0) = -5;  given(0) = -15;  days(1) = -5;  status(15) = 7
            """);
        Document.says("-6 WRONG: a number that may not be, a FAULT, what can't be as things stand.", "doll(10, 0, 0, 0, 1, 0, 0) = -6;  arm(0, 0, 0, 5, 5, 5) = 0;  off(0) = -6")
            .fault("x", 0).go("restore() = -6;  status(16) = 4");
        Run room = Document.says("-7 ROOM: more than may be.", "row(0, 0, 161) = -7");
        for (int i = 0; i < 9; i++) {
            room.is("arm(0, 0, 0, 5, 5, 5)", i < 8 ? i : -7).is("doll(5, 5, 5, 0, 1, 0, 0)", i < 5 ? i : -7);
        }
        room.is("status(17)", 6);
    }

    private static void details() {
        Run run = Document.says("Details. Whether there is room for a word is asked when its letters stand whole: until then the first element that is not as it is the "
            + "FAULT, or the number of elements.");
        for (int i = 0; i < 8; i++) {
            run.is("arm(0, 0, 0, 5, 5, 5)", i);
        }
        run.fault("a", 1).fault("ar", 2).fault("axm", 1).fault("arx", 2).fault("arm", 0).fault("arm 9", 0).fault("armx", 0);
        run.shop(DOLL, 1).fault("lies 0 1;ar", 11).fault("lies 0 1;arx", 11).fault("lies 0 1;arm", 9).is("dollOf(0, 7)", 0);
    }
}
