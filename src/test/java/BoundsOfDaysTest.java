/**
 * The boundary cases of what comes to pass IN TRUTH, of DAYS by draws, of MOVES and THE TRACE, of THE IMAGE and of
 * how many there are (promises 33 to 42): one test for each sentence, which is quoted.
 */
public final class BoundsOfDaysTest {
    private static final String LEFT = "arm(0, 0, 0, 5, 5, 5)";
    private static final String RIGHT = "arm(0, 0, 1, 5, 5, 5)";
    private static final String DOLL = "doll(5, 5, 5, 0, 1, 0, 0)";

    public static void main(String[] args) {
        mendSpentAndMended();
        mendInTheDrawerFitsEmpty();
        mendSides();
        mendTheMost();
        offWhereItWas();
        doneEachTwoAMend();
        doneAllOrNothing();
        daysHowMany();
        daysNinetyNineAtMost();
        daysNoArmsNoDolls();
        drawWrapsAndHasNoSign();
        drawBelowHowMany();
        dayByDrawMends();
        dayByDrawComesOff();
        dayByDrawLeaves();
        seedAnyNumber();
        movesWrap();
        movesNumberAndA();
        movesNoSuch();
        traceBounds();
        traceFirstTwenty();
        imageOfNothing();
        imageOfAllBut();
        imageTakenAnew();
        restoreShelves();
        restoreNoImage();
        statusCounts();
        statusBounds();
        Due.end("BoundsOfDaysTest");
    }

    private static Run with(Run run, int count, String call) {
        for (int i = 0; i < count; i++) {
            run.is(call, i);
        }
        return run;
    }

    private static void mendSpentAndMended() {
        Run run = Run.of("a MEND (SPENT: MINUTES of the DOLL more; MENDED 1 more)", "doll(5, 0, 0, 0, 99, 0, 0) = 0 \n doll(5, 0, 0, 0, 1, 0, 0) = 1");
        run.is("arm(4, 0, 0, 5, 0, 0)", 0).go("mend(0, 0, 0) = 99 \n status(4) = 1 \n status(5) = 99 \n off(0) = 0 \n status(4) = 1 \n status(5) = 99");
        run.go("mend(0, 1, 1) = 100 \n status(4) = 2 \n status(5) = 100 \n mend(0, 1, 1) = -6 \n status(4) = 2 \n status(5) = 100 \n status(6) = 0");
    }

    private static void mendInTheDrawerFitsEmpty() {
        Run run = Run.of("it isn't in THE DRAWER, doesn't FIT, the SIDE isn't empty").is(DOLL, 0).is(DOLL, 1).is(LEFT, 0).is(LEFT, 1).is(RIGHT, 2);
        run.go("arm(0, 0, 0, 6, 0, 0) = 3 \n arm(0, 0, 0, 7, 0, 0) = 4 \n arm(6, 0, 0, 3, 0, 0) = 5 \n arm(6, 0, 0, 2, 0, 0) = 6 \n mend(4, 0, 0) = -6");
        run.go("mend(6, 0, 0) = -6 \n mend(2, 0, 0) = -6 \n mend(0, 0, 1) = -6 \n mend(0, 0, 0) = 1 \n mend(0, 1, 0) = -6 \n mend(0, 0, 0) = -6 \n mend(1, 0, 0) = -6");
        run.go("mend(2, 0, 1) = 2 \n mend(3, 1, 0) = 3 \n off(3) = 10 \n mend(5, 1, 0) = 4 \n mend(0, 0, 2) = -6 \n mend(0, 0, -1) = -6 \n mend(7, 0, 0) = -1");
        run.go("mend(0, 2, 0) = -1 \n mend(-1, 0, 0) = -1 \n mend(0, -1, 0) = -1 \n mend(7, 2, 2) = -1");
    }

    private static void mendSides() {
        Run run = Run.of("-6 SIDE, also of a DOUBLED one").is(DOLL, 0).is("arm(4, 0, 0, 5, 5, 5)", 0);
        run.go("mend(0, 0, 2) = -6 \n mend(0, 0, -1) = -6 \n mend(0, 0, -10) = -6 \n mend(0, 0, 10) = -6 \n armOf(0, 8) = 99 \n status(4) = 0");
        run.go("may(0, 2) = -6 \n best(0, 2) = -16 \n on(0, 2) = -16 \n fits(0, 0, 2) = -6 \n mend(0, 0, 1) = 1 \n armOf(0, 8) = 1 \n on(0, 0) = -1");
    }

    private static void mendTheMost() {
        Run run = with(Run.of("all ARMS ON DOLLS"), 8, "arm(4, 0, 0, 5, 5, 5)");
        with(run, 5, "doll(5, 5, 5, 0, 99, 0, 0)");
        for (int i = 0; i < 8; i++) {
            run.is("status(2)", 8 - i).is("mend(" + i + ", " + i / 2 + ", " + i % 2 + ")", 99 * (i + 1)).is("status(3)", (i + 1) / 2);
        }
        run.go("status(2) = 0 \n status(4) = 8 \n mend(7, 4, 0) = -6 \n may(4, 0) = 0 \n whole(0) = 0 \n dearest(0) = -1 \n off(7) = 31 \n status(3) = 3");
    }

    private static void offWhereItWas() {
        Run run = with(Run.of("An ARM comes off: where it was (as told of ARMS)"), 5, DOLL).is("arm(4, 0, 0, 5, 5, 5)", 0).is("off(0)", -6);
        run.go("mend(0, 0, 0) = 1 \n off(0) = 0 \n off(0) = -6 \n mend(0, 4, 1) = 2 \n armOf(0, 8) = 41 \n off(0) = 41 \n off(0) = -6 \n off(1) = -1 \n off(-1) = -1");
        run.go("on(0, 0) = -1 \n on(4, 1) = -1 \n status(2) = 1 \n status(4) = 2");
    }

    private static void doneEachTwoAMend() {
        Run run = Run.of("It comes to pass in truth, each two a MEND: MENDED", "doll(5, 0, 0, 0, 10, 0, 0) = 0 \n doll(5, 0, 0, 0, 7, 0, 0) = 1");
        run.is(LEFT, 0).is(RIGHT, 1).is(LEFT, 2).fill(0, 0, 0, 1, 11, 2, 10).go("done(0, 0) = 0 \n status(5) = 0 \n done(0, 1) = 1 \n status(5) = 10 \n on(0, 0) = 0");
        run.go("done(0, 1) = -6 \n off(0) = 0 \n done(0, 3) = 4 \n status(5) = 34 \n on(0, 0) = 0 \n on(1, 1) = 1 \n on(1, 0) = 2 \n done(0, 0) = 4 \n status(6) = 0");
        run.go("element(0, 0) = 0 \n element(0, 3) = 11 \n holds(0) = 102");
    }

    private static void doneAllOrNothing() {
        Run run = Run.of("-6 likewise: nothing changes").is(DOLL, 0).is(LEFT, 0).is(RIGHT, 1).fill(0, 0, 0, 1, 1, 0, 0).is("done(0, 3)", -6);
        run.go("on(0, 0) = -1 \n on(0, 1) = -1 \n status(2) = 2 \n status(4) = 0 \n status(5) = 0 \n done(0, 2) = 2 \n done(0, 2) = -6 \n status(4) = 2 \n status(16) = 2");
    }

    private static void daysHowMany() {
        Run run = Run.of("DAYS by draws, n (1 to 60)").is(DOLL, 0).is("arm(0, 0, 0, 0, 0, 0)", 0);
        run.go("days(0) = -6 \n days(61) = -6 \n days(-1) = -6 \n status(6) = 0 \n status(7) = 1 \n dollOf(0, 7) = 0 \n days(1) = 0 \n status(6) = 1 \n dollOf(0, 7) = 1");
        run.go("days(60) = 0 \n status(6) = 61 \n dollOf(0, 7) = 61 \n days(2147483647) = -6 \n days(-2147483648) = -6 \n status(6) = 61 \n status(16) = 5");
    }

    private static void daysNinetyNineAtMost() {
        Run run = Run.of("DAYS of all DOLLS 1 more (99 at most), TODAY 1 more").is(DOLL, 0).is(DOLL, 1).is(DOLL, 2).is("arm(0, 0, 0, 0, 0, 0)", 0);
        run.go("tell(0, 3, 98) = 0 \n tell(1, 3, 99) = 0 \n days(1) = 0 \n dollOf(0, 7) = 99 \n dollOf(1, 7) = 99 \n dollOf(2, 7) = 1 \n days(1) = 0 \n dollOf(0, 7) = 99");
        run.go("dollOf(2, 7) = 2 \n days(60) = 0 \n days(37) = 0 \n dollOf(2, 7) = 99 \n days(60) = 0 \n dollOf(2, 7) = 99 \n status(6) = 159 \n comes(2, 99) = 497");
    }

    private static void daysNoArmsNoDolls() {
        Run run = Run.of("-5 no ARMS, no DOLLS; -6", "days(1) = -5 \n days(0) = -5 \n days(61) = -5").is(DOLL, 0).go("days(1) = -5 \n dollOf(0, 7) = 0");
        run.is(LEFT, 0).go("days(1) = 0 \n days(0) = -6 \n status(15) = 4");
        Run.of("ARMS alone").is(LEFT, 0).go("days(1) = -5 \n status(6) = 0 \n status(7) = 1").is(DOLL, 0).is("days(1)", 0);
    }

    /** SEED times 1103515245, and 12345, by three draws a day; reckoned by hand in longs. */
    private static void drawWrapsAndHasNoSign() {
        int[] seeds = {0, 1, -1, 2147483647, -2147483648, 12345, -987654321};
        for (int seed : seeds) {
            Run run = Run.of("SEED becomes SEED times 1103515245, and 12345 (an int, wrapping)").is(DOLL, 0).is("arm(0, 0, 0, 0, 0, 0)", 0);
            long due = seed;
            run.is("seed(" + seed + ")", 1).is("days(1)", 0);
            for (int i = 0; i < 3; i++) {
                due = due * 1103515245L + 12345L << 32 >> 32;
            }
            run.is("status(7)", due);
        }
    }

    /** Each draw of a day by itself: its upper 16 bits, no sign, modulo how many there are. */
    private static void drawBelowHowMany() {
        int arms = 7;
        int dolls = 5;
        int below = 0;
        for (int seed = -40; seed < 40; seed++) {
            Run run = with(Run.of("its upper 16 bits, no sign, modulo n"), arms, "arm(4, 0, 0, 5, 0, 0)");
            with(run, dolls, "doll(5, 0, 0, 0, 1, 0, 0)").is("seed(" + seed * 977 + ")", 1).is("days(1)", 1);
            long[] drawn = new long[3];
            long now = seed * 977L;
            for (int i = 0; i < 3; i++) {
                now = now * 1103515245L + 12345L & 0xFFFFFFFFL;
                drawn[i] = now / 65536;
                below += now >= 0x80000000L ? 1 : 0;
            }
            run.is("armOf(" + drawn[0] % arms + ", 8)", 10 * (drawn[1] % dolls) + drawn[2] % 2).is("status(2)", arms - 1);
        }
        Due.holds("many draws whose highest bit stands: " + below, below > 60);
    }

    /** From SEED 1 the draws are 16838, 38526, 10113: of 3 ARMS 2, of 5 DOLLS 1, the right SIDE. */
    private static Run drawn(String sentence, String arms) {
        Run run = Run.of(sentence, arms);
        return with(run, 5, "doll(5, 0, 0, 2, 8, 0, 0)");
    }

    private static void dayByDrawMends() {
        String two = LEFT + " = 0 \n " + LEFT + " = 1 \n ";
        Run run = drawn("if the ARM is in THE DRAWER, FITS and the SIDE is empty, a MEND", two + RIGHT + " = 2").is("days(1)", 1);
        run.go("armOf(2, 8) = 11 \n status(4) = 1 \n status(5) = 8 \n status(6) = 1 \n status(7) = 662824084 \n on(1, 1) = 2");
        drawn("of the other SIDE", two + LEFT + " = 2").go("days(1) = 0 \n armOf(2, 8) = 99 \n status(5) = 0 \n status(6) = 1 \n status(7) = 662824084");
        drawn("1 apart", two + "arm(0, 0, 1, 6, 0, 0) = 2").go("days(1) = 1 \n armOf(2, 8) = 11");
        drawn("2 apart", two + "arm(0, 0, 1, 7, 0, 0) = 2").go("days(1) = 0 \n armOf(2, 8) = 99");
        drawn("GLUED, 2 apart", two + "arm(6, 0, 1, 3, 0, 0) = 2").go("days(1) = 1 \n armOf(2, 8) = 11");
        drawn("DOUBLED", two + "arm(4, 0, 0, 5, 0, 0) = 2").go("days(1) = 1 \n armOf(2, 8) = 11");
        Run full = drawn("the SIDE isn't empty", LEFT + " = 0 \n " + RIGHT + " = 1 \n " + RIGHT + " = 2").go("mend(1, 1, 1) = 8 \n days(1) = 1");
        full.go("armOf(2, 8) = 99 \n armOf(1, 8) = 11 \n status(5) = 8 \n status(4) = 1");
    }

    private static void dayByDrawComesOff() {
        Run run = drawn("if it is ON that DOLL, there, it comes off", LEFT + " = 0 \n " + LEFT + " = 1 \n " + RIGHT + " = 2").is("mend(2, 1, 1)", 8);
        run.go("days(1) = 1 \n armOf(2, 8) = 99 \n on(1, 1) = -1 \n status(4) = 1 \n status(5) = 8 \n seed(1) = 662824084 \n days(1) = 2 \n armOf(2, 8) = 11");
        run.go("seed(1) = 662824084 \n days(1) = 2 \n armOf(2, 8) = 99 \n status(5) = 16");
    }

    private static void dayByDrawLeaves() {
        String arms = LEFT + " = 0 \n " + LEFT + " = 1 \n arm(4, 0, 0, 5, 5, 5) = 2";
        drawn("ON that DOLL, but not there", arms).go("mend(2, 1, 0) = 8 \n days(1) = 1 \n armOf(2, 8) = 10 \n status(4) = 1 \n status(5) = 8");
        drawn("there, but ON another DOLL", arms).go("mend(2, 0, 1) = 8 \n days(1) = 1 \n armOf(2, 8) = 1 \n status(4) = 1 \n dollOf(0, 7) = 1");
        drawn("another ARM there stays", arms).go("mend(2, 1, 1) = 8 \n mend(0, 1, 0) = 16 \n days(1) = 2 \n armOf(0, 8) = 10 \n armOf(2, 8) = 99");
    }

    private static void seedAnyNumber() {
        Run run = Run.of("SEED becomes v: what it was (nothing is refused)", "seed(0) = 1 \n seed(-2147483648) = 0 \n seed(2147483647) = -2147483648");
        run.go("seed(-1) = 2147483647 \n status(7) = -1 \n seed(1) = -1").each("status(#)", 0, 11, 12, 13, 14, 15, 16, 17);
    }

    private static void movesWrap() {
        Run run = Run.of("MOVES of ARMS, with x (wrapping)", "arm(0, 9, 0, 0, 0, 0) = 0 \n arm(1, 9, 0, 0, 0, 0) = 1 \n arm(2, 9, 0, 0, 0, 0) = 2");
        run.go("arm(3, 9, 0, 0, 0, 0) = 3 \n arm(4, 9, 0, 0, 0, 0) = 4 \n arm(5, 9, 0, 0, 0, 0) = 5 \n arm(6, 9, 0, 0, 0, 0) = 6");
        run.go("act(0, 0, 2147483647) = 2147483647 \n act(1, 0, 2147483647) = -2147483639 \n act(1, 0, 2147483637) = 2147483647 \n act(1, 0, 2147483638) = -2147483648");
        run.go("act(0, 1, 1073741823) = 2147483646 \n act(0, 1, 1073741824) = -2147483648 \n act(0, 1, -1073741824) = -2147483648 \n act(0, 1, -1073741825) = 2147483646");
        // (x + 2) * 2 * 3: 2147483646 is 357913939's, 2147483652 wraps
        run.go("act(2, 1, 357913939) = 2147483646 \n act(2, 1, 357913940) = -2147483644 \n act(3, 0, 2147483647) = -2147483636");
        // 0 ^ (x - 9) at the least x there is: 2147483639; its sign turned; then the least of all, which has no other sign
        run.go("act(0, 2, -2147483648) = 2147483639 \n act(4, 2, -2147483648) = -2147483639 \n act(4, 0, 2147483647) = 2147483647");
        run.go("act(5, 2, 0) = " + (30 ^ -4 ^ 5) + " \n act(6, 0, 2147483647) = " + (2147483647 + 1 + 6 + 9) * 2);
        run.go("act(6, 1, -2147483648) = " + (-2147483648 - 9 + 1 + 6 + 9) * 4);
    }

    private static void movesNumberAndA() {
        // m is the number: 0 for the first, 7 for the last; k its a: 0 and 9
        Run run = with(Run.of("m the number, k its a"), 7, LEFT).is("arm(4, 9, 0, 0, 0, 0)", 7);
        run.go("act(0, 0, 5) = 5 \n act(6, 0, 5) = 11 \n act(7, 0, 5) = 5 \n act(7, 1, 5) = 10").is("act(7, 2, 5)", -(10 ^ -4));
        Run a = Run.of("its a", "arm(1, 0, 0, 0, 0, 0) = 0 \n arm(1, 9, 0, 0, 0, 0) = 1 \n act(0, 0, 5) = 5 \n act(1, 0, 5) = 15 \n act(0, 2, 5) = 15");
        a.is("act(1, 2, 5)", 30 ^ 6);
    }

    private static void movesNoSuch() {
        Run run = with(Run.of("0, and no TRACE then: no such ARM, move"), 2, LEFT);
        String[] calls = {"act(2, 0, 5)", "act(-1, 0, 5)", "act(1, 3, 5)", "act(1, -1, 5)", "act(2147483647, 0, 5)", "act(1, -2147483648, 5)", "act(2, 3, 5)"};
        for (String call : calls) {
            run.go("act(1, 2, 5) = " + (12 ^ 6) + " \n trace(0) = 12 \n status(8) = 4").is(call, 0).go("trace(0) = -1 \n trace(1) = -1 \n status(8) = 0");
        }
        run.each("status(#)", 0, 11, 12, 13, 14, 15, 16, 17);
    }

    private static void traceBounds() {
        Run run = Run.of("THE TRACE's i-th body. NONE: none such", "trace(0) = -1 \n trace(-1) = -1 \n status(8) = 0 \n arm(0, 0, 0, 0, 0, 0) = 0 \n trace(0) = -1");
        run.go("act(0, 0, 1) = 1 \n trace(0) = 10 \n trace(1) = -1 \n trace(-1) = -1 \n act(0, 1, 1) = 2 \n trace(0) = 11 \n trace(1) = 10 \n trace(2) = -1");
        run.go("act(0, 0, 1) = 1 \n trace(0) = 10 \n trace(1) = -1 \n status(8) = 1").each("trace(#)", -1, 19, 20, 21, 2147483647, -2147483648);
    }

    /** No act() runs as many as 20: the most is 11, of a GLUED one that drops. */
    private static void traceFirstTwenty() {
        Run run = Run.of("in the order in which they began; the first 20 are kept", "arm(6, 1, 0, 0, 0, 0) = 0");
        run.ask("act(0, 2, 3)");
        int[] bodies = {12, 71, 11, 70, 40, 20, 10, 70, 40, 20, 10};
        run.is("status(8)", bodies.length);
        for (int i = 0; i < bodies.length; i++) {
            run.is("trace(" + i + ")", bodies[i]);
        }
        run.each("trace(#)", -1, 11, 12, 19, 20);
    }

    private static void imageOfNothing() {
        Run run = Run.of("THE IMAGE is taken: how many ARMS", "image() = 0 \n restore() = 0").is(LEFT, 0).is(DOLL, 0);
        run.go("mend(0, 0, 0) = 1 \n days(1) = 1 \n restore() = 0").each("status(#)", 0, 0, 1, 2, 3, 4, 5, 6).is("status(7)", 1).is(DOLL, 0);
        run.go("dollOf(0, 7) = 0 \n on(0, 0) = -1").is(LEFT, 0).go("armOf(0, 8) = 99 \n dollOf(1, 0) = -5");
        Run full = with(Run.of("of a full shop"), 8, LEFT);
        with(full, 5, DOLL).go("mend(7, 4, 0) = 1 \n image() = 8 \n off(7) = 40 \n restore() = 8 \n on(4, 0) = 7 \n status(1) = 5").is(LEFT, -7).is(DOLL, -7);
    }

    private static void imageOfAllBut() {
        Run run = Run.of("of all but SHELVES (and THE IMAGE, REFUSALS, the FAULT, THE TRACE)").is(LEFT, 0).is("doll(5, 5, 5, 0, 3, 4, 5)", 0).is("seed(9)", 1);
        run.go("mend(0, 0, 0) = 3 \n tell(0, 3, 7) = 0 \n image() = 1 \n off(0) = 0 \n dye(0, 0, 1) = 5 \n dye(0, 1, 2) = 5 \n tell(0, 0, 2) = 0");
        run.go("tell(0, 1, 9) = 4 \n tell(0, 2, 40) = 5 \n tell(0, 3, 0) = 7 \n seed(5) = 9").is(RIGHT, 1).is(DOLL, 1).is("mend(1, 1, 1)", 4);
        run.ask("days(3)");
        run.fill(0, 4, 5).go("show(1, 0) = 1 \n row(2, 4, 0) = -6 \n act(0, 1, 4) = 8").fault("on 9", 3).is("restore()", 1);
        run.go("armOf(0, 8) = 0 \n armOf(0, 4) = 5 \n armOf(0, 5) = 5 \n dollOf(0, 3) = 0 \n dollOf(0, 5) = 4 \n dollOf(0, 6) = 5 \n dollOf(0, 7) = 7");
        run.go("status(0) = 1 \n status(1) = 1 \n status(2) = 0 \n status(4) = 1 \n status(5) = 3 \n status(6) = 0 \n status(7) = 9");
        // and what is not in it
        run.go("holds(0) = 102 \n element(0, 1) = 5 \n holds(1) = 0 \n holds(7) = 100 \n status(16) = 2 \n fault() = 3 \n trace(0) = 11 \n status(8) = 2");
        run.go("off(0) = 0 \n restore() = 1 \n on(0, 0) = 0 \n restore() = 1");
    }

    private static void imageTakenAnew() {
        Run run = Run.of("the latest IMAGE").is(LEFT, 0).is("image()", 1).is(LEFT, 1).is("image()", 2).is(LEFT, 2).go("restore() = 2 \n status(0) = 2").is(RIGHT, 2);
        run.go("armOf(2, 2) = 1 \n restore() = 2 \n armOf(2, 2) = -5").is(DOLL, 0).go("restore() = 2 \n dollOf(0, 0) = -5 \n image() = 2 \n restore() = 2");
    }

    private static void restoreShelves() {
        Run run = with(Run.of("SHELVES with ARMS hold those of these numbers, or NOTHING"), 2, LEFT).is("image()", 2).is(LEFT, 2);
        run.go("show(0, 0) = 1 \n show(1, 1) = 1 \n show(2, 2) = 1 \n show(7, 2) = 1 \n show(6, 1) = 1 \n row(3, 1, 2) = 1 \n set(3, 1, 4) = 1 \n dye(1, 0, 9) = 5");
        run.go("restore() = 2 \n holds(0) = 0 \n holds(1) = 1 \n holds(2) = -1 \n holds(7) = -1 \n holds(6) = 1 \n holds(3) = 101 \n element(3, 1) = 4 \n holds(4) = -1");
        run.go("says(2, 0) = -3 \n set(2, 0, 0) = -3 \n says(1, 0) = 5").is(LEFT, 2).go("holds(2) = -1 \n show(2, 2) = 1 \n restore() = 2 \n holds(2) = -1");
        Run none = Run.of("back to no ARMS", "image() = 0").is(LEFT, 0).go("show(0, 0) = 1 \n show(7, 0) = 1 \n restore() = 0 \n holds(0) = -1 \n holds(7) = -1");
        // an ARM of that number that is another one now
        Run other = Run.of("of these numbers").is("arm(0, 0, 0, 3, 0, 0)", 0).is("image()", 1).is("arm(0, 0, 0, 4, 0, 0)", 1).go("show(0, 1) = 1 \n image() = 2");
        other.go("show(1, 0) = 1 \n restore() = 2 \n says(0, 0) = 4 \n says(1, 0) = 3");
        none.is("show(0, 0)", -1);
    }

    private static void restoreNoImage() {
        Run run = Run.of("-6 there is none", "restore() = -6").is(LEFT, 0).go("show(0, 0) = 1 \n restore() = -6 \n status(0) = 1 \n holds(0) = 0 \n status(16) = 2");
        run.go("image() = 1 \n restore() = 1 \n status(16) = 2");
    }

    private static void statusCounts() {
        Run run = Run.of("2 in THE DRAWER, 3 DOLLS with both").is(DOLL, 0).is(DOLL, 1).is(LEFT, 0).is(RIGHT, 1).is("arm(4, 0, 0, 5, 0, 0)", 2);
        run.go("status(0) = 3 \n status(1) = 2 \n status(2) = 3 \n status(3) = 0 \n mend(0, 0, 0) = 1 \n status(2) = 2 \n status(3) = 0 \n mend(2, 1, 1) = 2");
        run.go("status(2) = 1 \n status(3) = 0 \n mend(1, 0, 1) = 3 \n status(2) = 0 \n status(3) = 1 \n off(0) = 0 \n status(3) = 0 \n mend(0, 1, 0) = 4 \n status(3) = 1");
    }

    private static void statusBounds() {
        Run run = Run.of("NONE for another what").each("status(#)", -1, -2147483648, -100, -1, 9, 10, 18, 19, 100, 2147483647, -2147483638, -2147483637);
        run.each("status(#)", 0, 0, 1, 2, 3, 4, 5, 6, 8, 11, 12, 13, 14, 15, 16, 17).is("status(7)", 1);
        run.go("row(8, 0, 0) = -1 \n status(11) = 1 \n row(0, 0, 161) = -7 \n status(17) = 1 \n status(18) = -1 \n status(10) = -1 \n status(15) = 0");
        run.go("given(0) = -15 \n status(15) = 1 \n on(0, 0) = -11 \n status(11) = 2 \n best(0, 0) = -11 \n dearest(2) = -15 \n judge(0, 0) = -13 \n status(13) = 1");
        run.go("status(11) = 3 \n status(15) = 2 \n status(12) = 0 \n status(14) = 0 \n status(16) = 0");
    }
}
