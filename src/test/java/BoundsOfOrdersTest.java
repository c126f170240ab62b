/**
 * The boundary cases of QUEUE, FEAST, SHADES and WEARS, DEAREST, SWAP, and of a told DAY and what is BEHIND it
 * (promises 27 to 32): one test for each sentence, which is quoted.
 */
public final class BoundsOfOrdersTest {
    private static final String LEFT = "arm(0, 0, 0, 5, 5, 5)";
    private static final String RIGHT = "arm(0, 0, 1, 5, 5, 5)";
    private static final String DOLL = "doll(5, 5, 5, 0, 1, 0, 0)";

    public static void main(String[] args) {
        queueOfNobodyAndOne();
        queueMost();
        queueFirstByRows();
        queueWithoutTears();
        queueAsThingsStand();
        feastTimes();
        feastLeastAsBits();
        feastFull();
        looksBits();
        looksWears();
        looksOfNoDolls();
        looksElements();
        looksAsSeen();
        dearestEmpty();
        dearestFewestSides();
        dearestMostUnlike();
        dearestFirst();
        swapOnDolls();
        swapOfOneSide();
        swapBothFitting();
        swapLessThanNow();
        swapFirst();
        swapTold();
        dayOfNone();
        dayOfTwenty();
        dayFirstWrong();
        dayByThen();
        dayFits();
        dayNumbers();
        behindBoth();
        behindUnlikeAndHer();
        behindChangesNothing();
        Due.end("BoundsOfOrdersTest");
    }

    private static Run with(Run run, int count, String call) {
        for (int i = 0; i < count; i++) {
            run.is(call, i);
        }
        return run;
    }

    private static void queueOfNobodyAndOne() {
        Run.of("QUEUE of nobody", "queue(-1) = 0 \n queue(0) = -5 \n queue(-2) = -5 \n queue(1) = -5");
        Run one = Run.of("QUEUE of one", "doll(0, 0, 0, 0, 99, 9, 0) = 0 \n queue(-1) = 891 \n queue(0) = 0 \n queue(1) = -5");
        one.go("tell(0, 1, 0) = 9 \n queue(-1) = 0 \n queue(0) = 0");
    }

    private static void queueMost() {
        Run run = with(Run.of("how much (i NONE), the i-th"), 5, "doll(0, 0, 0, 0, 99, 9, 0)");
        run.is("queue(-1)", 9 * 99 * 15).each("queue(#)", -5, -2, 5, 2147483647, -2147483648);
        for (int i = 0; i < 5; i++) {
            run.is("queue(" + i + ")", i);
        }
        run.go("tell(0, 1, 0) = 9").is("queue(-1)", 9 * 99 * 10).is("queue(0)", 1).is("queue(4)", 0);
    }

    private static void queueFirstByRows() {
        // minutes to tears alike for all: every row costs the same
        Run run = Run.of("of several the first by rows");
        for (int d = 0; d < 5; d++) {
            run.is("doll(0, 0, 0, 0, " + 2 * (5 - d) + ", " + (5 - d) + ", 0)", d);
        }
        for (int d = 0; d < 5; d++) {
            run.is("queue(" + d + ")", d);
        }
        // 10, 18, 24, 28, 30 minutes; tears 5, 4, 3, 2, 1
        run.is("queue(-1)", 50 + 72 + 72 + 56 + 30);
        run.go("tell(4, 1, 2) = 1 \n queue(0) = 4 \n queue(1) = 0 \n queue(4) = 3 \n tell(4, 1, 0) = 2 \n queue(0) = 0 \n queue(4) = 4");
        // one minute more or less parts those alike
        Run two = Run.of("alike or not", "doll(0, 0, 0, 0, 6, 2, 0) = 0 \n doll(0, 0, 0, 0, 9, 3, 0) = 1 \n queue(0) = 0 \n queue(-1) = 57");
        two.go("doll(0, 0, 0, 0, 8, 3, 0) = 2 \n queue(0) = 2 \n queue(1) = 0 \n queue(2) = 1 \n queue(-1) = 121");
    }

    private static void queueWithoutTears() {
        Run run = with(Run.of("no TEARS: every row costs nothing"), 3, "doll(0, 0, 0, 0, 7, 0, 0)");
        run.go("queue(-1) = 0 \n queue(0) = 0 \n queue(1) = 1 \n queue(2) = 2 \n tell(2, 1, 1) = 0 \n queue(-1) = 7 \n queue(0) = 2 \n queue(1) = 0");
        run.is("queue(2)", 1);
    }

    private static void queueAsThingsStand() {
        Run run = Run.of("DOLLS are fewer by the IMAGE", "doll(0, 0, 0, 0, 5, 3, 0) = 0 \n queue(-1) = 15 \n image() = 0 \n doll(0, 0, 0, 0, 4, 1, 0) = 1");
        run.go("queue(-1) = 24 \n queue(0) = 0 \n queue(1) = 1 \n feast(400, 0) = 3 \n restore() = 0 \n queue(-1) = 15 \n queue(0) = 0 \n queue(1) = -5");
        run.go("feast(400, 0) = 1 \n doll(0, 0, 0, 0, 1, 9, 0) = 1 \n queue(-1) = 27 \n queue(0) = 1 \n tell(1, 1, 0) = 9 \n queue(-1) = 15");
    }

    private static void feastTimes() {
        Run run = Run.of("FEAST: of DOLLS that can be done in a time (0 to 400 minutes) those with most TEARS together");
        run.go("feast(0, 0) = 0 \n feast(0, 1) = 0 \n feast(400, 0) = 0 \n feast(401, 0) = -6 \n feast(-1, 0) = -6 \n feast(400, 2) = -5");
        run.go("doll(0, 0, 0, 0, 1, 1, 0) = 0 \n feast(0, 0) = 0 \n feast(0, 1) = 0 \n feast(1, 0) = 1 \n feast(1, 1) = 1");
        run.go("doll(0, 0, 0, 0, 99, 9, 0) = 1 \n feast(98, 0) = 1 \n feast(99, 0) = 2 \n feast(99, 1) = 9 \n feast(100, 0) = 3 \n feast(100, 1) = 10");
        run.go("feast(400, 0) = 3 \n feast(401, 1) = -6 \n feast(-1, 1) = -6 \n feast(2147483647, 0) = -6 \n feast(-2147483648, 0) = -6");
    }

    private static void feastLeastAsBits() {
        Run run = Run.of("of several the least as bits", "doll(0, 0, 0, 0, 30, 3, 0) = 0 \n doll(0, 0, 0, 0, 20, 2, 0) = 1");
        run.go("doll(0, 0, 0, 0, 10, 1, 0) = 2 \n feast(30, 0) = 1 \n feast(29, 0) = 2 \n feast(30, 1) = 3 \n feast(29, 1) = 2 \n feast(10, 0) = 4");
        run.go("tell(0, 1, 2) = 3 \n feast(30, 0) = 6 \n feast(30, 1) = 3 \n feast(20, 0) = 2 \n tell(2, 1, 0) = 1 \n feast(30, 0) = 1 \n feast(50, 0) = 3");
        run.go("feast(400, 0) = 3 \n tell(0, 1, 0) = 2 \n tell(1, 1, 0) = 2 \n feast(400, 0) = 0 \n feast(400, 1) = 0");
    }

    private static void feastFull() {
        Run run = with(Run.of("five DOLLS of 99 MINUTES"), 5, "doll(0, 0, 0, 0, 99, 9, 0)");
        run.go("feast(400, 0) = 15 \n feast(400, 1) = 36 \n feast(396, 1) = 36 \n feast(395, 1) = 27 \n feast(395, 0) = 7 \n feast(98, 0) = 0");
        run.go("tell(0, 1, 8) = 9 \n feast(400, 0) = 30 \n feast(99, 0) = 2 \n feast(198, 0) = 6");
        Run eighty = with(Run.of("five DOLLS of 80 MINUTES"), 5, "doll(0, 0, 0, 0, 80, 9, 0)").go("feast(400, 0) = 31 \n feast(400, 1) = 45");
        eighty.go("feast(399, 0) = 15 \n feast(399, 1) = 36");
    }

    private static void looksBits() {
        Run run = Run.of("SHADES (bits 0 to 9) of an ARM that FIT a ROW of its UNLIKE to all DOLLS", "doll(5, 0, 0, 0, 1, 0, 0) = 0");
        run.is("arm(0, 0, 0, 5, 5, 0)", 0).is("row(0, 2, 1)", 1);
        for (int v = 0; v <= 9; v++) {
            run.is("set(0, 0, " + v + ")", 1).is("looks(0, 0, 0)", 1 << v);
        }
        run.go("set(0, 0, 10) = 1 \n looks(0, 0, 0) = 0 \n set(0, 0, -1) = 1 \n looks(0, 0, 0) = 0 \n armOf(0, 4) = 5");
        run.go("tell(0, 0, 2) = 0 \n looks(0, 0, 0) = 0 \n set(0, 0, 0) = 1 \n looks(0, 0, 0) = 1023 \n looks(0, 0, 1) = 1023 \n looks(0, 0, 2) = -5 \n looks(0, 0, -1) = -5");
    }

    private static void looksWears() {
        Run run = Run.of("WEARS (bits 0 to 9) likewise", "doll(5, 5, 9, 0, 1, 0, 0) = 0").is("arm(0, 0, 0, 5, 5, 3)", 0).is("row(0, 2, 1)", 1);
        for (int v = 0; v <= 9; v++) {
            run.is("set(0, 0, " + v + ")", 1).is("looks(0, 0, 1)", 1 << 9 - v);
        }
        run.go("tell(0, 0, 1) = 0 \n set(0, 0, 9) = 1 \n looks(0, 0, 1) = 512 \n set(0, 0, 0) = 1 \n looks(0, 0, 1) = 1 \n set(0, 0, 10) = 1 \n looks(0, 0, 1) = 0");
        run.is("armOf(0, 5)", 3);
    }

    private static void looksOfNoDolls() {
        Run run = Run.of("no DOLLS: all fit").is(LEFT, 0).go("row(0, 2, 0) = 1 \n looks(0, 0, 0) = 1023 \n looks(0, 0, 1) = 1023 \n looks(0, 0, 2) = -5");
        run.go("row(0, 2, 1) = 1 \n set(0, 0, 77) = 1 \n looks(0, 0, 0) = 1023");
    }

    private static void looksElements() {
        Run run = with(Run.of("(of as many elements as DOLLS at least)"), 5, "doll(5, 5, 5, 0, 1, 0, 0)").is("arm(0, 0, 0, 5, 5, 5)", 0);
        run.go("row(0, 2, 4) = 1 \n looks(0, 0, 0) = -5 \n row(0, 2, 5) = 1 \n looks(0, 0, 0) = 32 \n set(0, 4, 1) = 1 \n looks(0, 0, 0) = 0");
        run.go("row(0, 2, 6) = 1 \n set(0, 5, 1) = 1 \n looks(0, 0, 0) = 32 \n set(0, 0, 1) = 1 \n looks(0, 0, 0) = 0 \n row(0, 3, 160) = 1 \n looks(0, 0, 1) = 32");
        run.go("row(0, 2, 0) = 1 \n looks(0, 0, 1) = -5");
    }

    /** Stained by 6, SHADES from 3 on are seen as 9; cast, no WEAR is seen; glued by 6, WEARS from 2 on as 9. */
    private static void looksAsSeen() {
        Run run = Run.of("SHADE and WEAR as they are, UNLIKE by what is seen", "doll(5, 9, 9, 0, 1, 0, 0) = 0 \n arm(1, 6, 0, 5, 0, 9) = 0");
        run.go("arm(2, 6, 0, 5, 9, 4) = 1 \n arm(6, 6, 0, 5, 9, 0) = 2 \n row(0, 2, 1) = 1 \n looks(0, 0, 0) = 1016 \n set(0, 0, 3) = 1");
        run.go("looks(0, 0, 0) = 1 \n looks(0, 1, 1) = 0 \n set(0, 0, 9) = 1 \n looks(0, 1, 1) = 1023 \n set(0, 0, 0) = 1 \n looks(0, 2, 1) = 1020");
        run.go("set(0, 0, 1) = 1 \n looks(0, 2, 1) = 2 \n set(0, 0, 2) = 1 \n looks(0, 2, 1) = 1");
        // shades as far apart on either side
        Run two = Run.of("two SHADES", "doll(5, 4, 0, 0, 1, 0, 0) = 0 \n arm(0, 0, 0, 5, 0, 0) = 0 \n row(0, 2, 2) = 1 \n set(0, 0, 4) = 1 \n looks(0, 0, 0) = 257");
        two.go("set(0, 0, 5) = 1 \n looks(0, 0, 0) = 512 \n doll(6, 9, 0, 2, 1, 0, 0) = 1 \n looks(0, 0, 0) = 0 \n set(0, 1, 2) = 1 \n looks(0, 0, 0) = 512");
    }

    private static void dearestEmpty() {
        Run run = Run.of("DEAREST: NONE: it is empty", "dearest(0) = -1").is(DOLL, 0).is("dearest(0)", -1).is(LEFT, 0).is("dearest(0)", 0);
        run.go("mend(0, 0, 0) = 1 \n dearest(0) = -1 \n off(0) = 0 \n dearest(0) = 0 \n dearest(2) = -15 \n dearest(-1) = -15");
        Run.of("no DOLLS: the first").is(LEFT, 0).is(RIGHT, 1).is("dearest(0)", 0);
    }

    private static void dearestFewestSides() {
        Run run = Run.of("without which WHOLE has fewest SIDES, then most UNLIKE").is(DOLL, 0).is(LEFT, 0).is(LEFT, 1);
        run.go("dye(1, 0, 0) = 5 \n dearest(0) = 0 \n arm(0, 0, 1, 6, 0, 0) = 2 \n dearest(0) = 2 \n arm(0, 0, 1, 6, 0, 0) = 3 \n dearest(0) = 0");
        run.go("mend(0, 0, 0) = 1 \n dearest(0) = 1 \n mend(2, 0, 1) = 2 \n dearest(0) = 1");
    }

    private static void dearestMostUnlike() {
        Run run = Run.of("then most UNLIKE").is(DOLL, 0).is(LEFT, 0).is(LEFT, 1).is(RIGHT, 2).is(RIGHT, 3);
        run.go("dye(1, 0, 6) = 5 \n dye(3, 0, 3) = 5 \n dearest(0) = 2 \n dye(1, 0, 8) = 6 \n dearest(0) = 0 \n dye(1, 0, 7) = 8 \n dearest(0) = 0");
    }

    private static void dearestFirst() {
        Run run = with(Run.of("of several the first"), 8, LEFT).is("dearest(0)", 0).is(DOLL, 0).is("dearest(0)", 0).is("mend(0, 0, 0)", 1);
        run.go("dearest(0) = 1").is(DOLL, 1).is("dearest(0)", 1).go("dye(7, 0, 5) = 5 \n dye(1, 0, 4) = 5 \n dearest(0) = 1 \n dye(1, 0, 5) = 4");
        for (int i = 1; i < 7; i++) {
            run.is("dye(" + i + ", 0, 0)", 5);
        }
        run.is("dearest(0)", 7).is("mend(7, 1, 0)", 2).is("dearest(0)", 1);
    }

    /** Arms 0 (shade 9) and 1 (shade 1), dolls 0 (shade 1) and 1 (shade 9), all of size 5. */
    private static Run swap(String sentence) {
        return Run.of(sentence, "doll(5, 1, 0, 0, 1, 0, 0) = 0 \n doll(5, 9, 0, 0, 1, 0, 0) = 1 \n arm(0, 0, 0, 5, 9, 0) = 0 \n arm(0, 0, 0, 5, 1, 0) = 1");
    }

    private static void swapOnDolls() {
        Run.of("SWAP of nothing", "dearest(1) = -1");
        Run run = swap("SWAP: the two ARMS ON DOLLS").go("dearest(1) = -1 \n mend(0, 0, 0) = 1 \n dearest(1) = -1 \n mend(1, 1, 0) = 2 \n dearest(1) = 1");
        run.go("off(0) = 0 \n dearest(1) = -1 \n mend(0, 0, 0) = 3 \n dearest(1) = 1 \n off(1) = 10 \n dearest(1) = -1");
        // on one doll there are not two arms of one side
        Run one = Run.of("on one DOLL", "doll(5, 1, 0, 0, 1, 0, 0) = 0 \n arm(4, 0, 0, 5, 9, 0) = 0 \n arm(4, 0, 0, 5, 1, 0) = 1 \n mend(0, 0, 0) = 1");
        one.go("mend(1, 0, 1) = 2 \n dearest(1) = -1");
    }

    private static void swapOfOneSide() {
        Run run = Run.of("of one SIDE (as they are on)", "doll(5, 1, 0, 0, 1, 0, 0) = 0 \n doll(5, 9, 0, 0, 1, 0, 0) = 1");
        run.go("arm(4, 0, 0, 5, 9, 0) = 0 \n arm(4, 0, 1, 5, 1, 0) = 1 \n mend(0, 0, 0) = 1 \n mend(1, 1, 0) = 2 \n dearest(1) = 1");
        run.go("off(1) = 10 \n mend(1, 1, 1) = 3 \n dearest(1) = -1 \n off(0) = 0 \n mend(0, 0, 1) = 4 \n dearest(1) = 1");
        Run two = Run.of("DOUBLED on a side that isn't its own", "doll(5, 1, 0, 0, 1, 0, 0) = 0 \n doll(5, 9, 0, 0, 1, 0, 0) = 1");
        two.go("arm(4, 0, 0, 5, 9, 0) = 0 \n arm(0, 0, 1, 5, 1, 0) = 1 \n mend(0, 0, 1) = 1 \n mend(1, 1, 1) = 2 \n dearest(1) = 1");
        two.go("off(0) = 1 \n mend(0, 0, 0) = 3 \n dearest(1) = -1");
    }

    private static void swapBothFitting() {
        // sizes of the dolls 5 and 7; an arm of 6 fits both
        String[][] sizes = {{"6", "6", "1"}, {"5", "6", "-1"}, {"6", "7", "1"}, {"6", "8", "-1"}, {"4", "7", "-1"}};
        for (String[] size : sizes) {
            Run run = Run.of("both FITTING", "doll(5, 0, 0, 0, 1, 0, 0) = 0 \n doll(7, 9, 0, 0, 1, 0, 0) = 1 \n row(0, 2, 0) = 1");
            run.is("arm(0, 0, 0, " + size[0] + ", 9, 0)", 0).is("arm(6, 0, 0, " + size[1] + ", 0, 0)", 1);
            boolean on = run.ask("mend(0, 0, 0)") == 1 && run.ask("mend(1, 1, 0)") == 2;
            Due.holds("both are on, sizes " + size[0] + " and " + size[1], on);
            boolean first = Math.abs(Integer.parseInt(size[0]) - 7) <= 1;
            boolean second = Math.abs(Integer.parseInt(size[1]) - 5) <= 2;
            run.is("dearest(1)", first && second ? 1 : -1).is("dearest(1)", Long.parseLong(size[2]));
        }
    }

    private static void swapLessThanNow() {
        Run run = Run.of("and less than now", "doll(5, 3, 0, 0, 1, 0, 0) = 0 \n doll(5, 6, 0, 0, 1, 0, 0) = 1 \n arm(0, 0, 0, 5, 4, 0) = 0");
        run.go("arm(0, 0, 0, 5, 4, 0) = 1 \n mend(0, 0, 0) = 1 \n mend(1, 1, 0) = 2 \n dearest(1) = -1 \n dye(0, 0, 5) = 4 \n dearest(1) = 1");
        run.go("dye(0, 0, 3) = 5 \n dearest(1) = -1 \n dye(0, 0, 9) = 3 \n dye(1, 0, 8) = 4 \n dearest(1) = -1 \n dye(1, 0, 6) = 8 \n dearest(1) = -1");
        run.go("dye(1, 0, 5) = 6 \n dearest(1) = 1 \n tell(0, 0, 2) = 0 \n dearest(1) = -1 \n tell(1, 0, 2) = 0 \n dearest(1) = -1");
    }

    private static void swapFirst() {
        // dolls of shade 0 have the arms of shade 9, those of shade 9 the arms of shade 0
        Run run = Run.of("of several the first: 10 times the lesser and the other");
        for (int d = 0; d < 4; d++) {
            run.is("doll(5, " + (d < 2 ? 0 : 9) + ", 0, 0, 1, 0, 0)", d);
        }
        run.go("arm(0, 0, 0, 5, 9, 0) = 0 \n arm(0, 0, 0, 5, 9, 0) = 1 \n arm(0, 0, 0, 5, 0, 0) = 2 \n arm(0, 0, 0, 5, 0, 0) = 3");
        run.go("mend(0, 0, 0) = 1 \n mend(1, 1, 0) = 2 \n mend(2, 2, 0) = 3 \n mend(3, 3, 0) = 4 \n dearest(1) = 2 \n dye(2, 0, 1) = 0 \n dearest(1) = 3");
        run.go("dye(0, 0, 8) = 9 \n dearest(1) = 13 \n dye(2, 0, 0) = 1 \n dearest(1) = 12 \n dye(3, 0, 1) = 0 \n dearest(1) = 12 \n dye(1, 0, 8) = 9 \n dearest(1) = 2");
        Run last = with(Run.of("of the highest numbers"), 6, "arm(0, 0, 1, 5, 0, 0)").go("arm(0, 0, 1, 5, 9, 0) = 6 \n arm(0, 0, 1, 5, 1, 0) = 7");
        last.go("doll(5, 1, 0, 0, 1, 0, 0) = 0 \n doll(5, 9, 0, 0, 1, 0, 0) = 1 \n mend(6, 0, 1) = 1 \n mend(7, 1, 1) = 2 \n dearest(1) = 67");
        last.go("off(6) = 1 \n off(7) = 11 \n mend(7, 1, 1) = 3 \n mend(6, 0, 1) = 4 \n dearest(1) = 67");
    }

    private static void swapTold() {
        swap("nothing is changed, nothing such").go("mend(0, 0, 0) = 1 \n mend(1, 1, 0) = 2 \n dearest(1) = 1 \n on(0, 0) = 0 \n on(1, 0) = 1 \n dearest(1) = 1")
            .go("status(4) = 2 \n dearest(2) = -15 \n dearest(-1) = -15 \n status(15) = 2");
    }

    private static void dayOfNone() {
        Run run = Run.of("the first n twos (0 to 20)", "row(0, 2, 0) = 1 \n judge(0, 0) = -1 \n behind(0, 0, 0) = 0 \n behind(0, 0, 1) = 0 \n behind(0, 0, 2) = 0");
        run.go("done(0, 0) = 0 \n judge(0, 1) = -15 \n judge(0, -1) = -14 \n row(0, 2, 1) = 1 \n judge(0, 0) = -1 \n judge(0, 1) = -15 \n row(0, 2, 2) = 1");
        run.go("judge(0, 1) = 0 \n judge(0, 2) = -15 \n behind(0, 1, 0) = -6 \n done(0, 1) = -6 \n row(0, 2, 3) = 1 \n judge(0, 1) = 0 \n judge(0, 2) = -15");
    }

    private static void dayOfTwenty() {
        Run run = Run.of("n above 20", "row(0, 2, 160) = 1 \n judge(0, 20) = 0 \n judge(0, 21) = -16 \n judge(0, 80) = -16 \n judge(0, 81) = -15");
        run.go("behind(0, 20, 0) = -6 \n behind(0, 81, 0) = -5 \n done(0, 20) = -6 \n done(0, 81) = -5 \n row(0, 2, 40) = 1 \n judge(0, 20) = 0 \n judge(0, 21) = -15");
        run.go("row(0, 2, 39) = 1 \n judge(0, 19) = 0 \n judge(0, 20) = -15 \n row(0, 2, 42) = 1 \n judge(0, 21) = -16 \n row(0, 2, 41) = 1 \n judge(0, 21) = -15");
        run.go("judge(0, 1073741824) = -15 \n judge(0, 1073741844) = -15 \n judge(0, 2147483647) = -15 \n judge(0, -2147483648) = -14");
        run.go("behind(0, 1073741824, 0) = -5 \n done(0, 1073741824) = -5");
        // eight can come, the ninth can't: there is no arm more
        Run eight = with(Run.of("8 twos that can be"), 8, "arm(4, 0, 0, 5, 5, 5)");
        with(eight, 5, DOLL).fill(0, 7, 0, 6, 1, 5, 10, 4, 11, 3, 20, 2, 21, 1, 30, 0, 31, 0, 40, 0, 41);
        eight.go("judge(0, 8) = -1 \n judge(0, 9) = 8 \n judge(0, 10) = 8 \n judge(0, 7) = -1 \n behind(0, 8, 0) = 4 \n behind(0, 7, 0) = 3 \n behind(0, 9, 0) = -6");
        eight.go("done(0, 9) = -6 \n status(2) = 8 \n done(0, 8) = 8 \n status(2) = 0 \n on(3, 1) = 0 \n on(0, 0) = 7");
    }

    private static void dayFirstWrong() {
        Run run = Run.of("WRONG: the first two that can't be").is(DOLL, 0).is(LEFT, 0).is(RIGHT, 1).fill(0, 0, 0, 0, 0, 1, 0, 9, 9);
        run.go("judge(0, 4) = 1 \n judge(0, 2) = 1 \n judge(0, 1) = -1 \n set(0, 1, 1) = 1 \n judge(0, 4) = 0 \n judge(0, 0) = -1");
        run.go("set(0, 1, 0) = 1 \n set(0, 2, 1) = 1 \n set(0, 3, 1) = 1 \n judge(0, 2) = -1 \n judge(0, 3) = 2 \n judge(0, 4) = 2 \n set(0, 5, 20) = 1 \n judge(0, 3) = 2");
    }

    private static void dayByThen() {
        Run run = Run.of("the ARM isn't in THE DRAWER by then, the SIDE isn't empty").is(DOLL, 0).is(DOLL, 1).is(LEFT, 0).is(LEFT, 1);
        run.fill(0, 0, 0, 0, 10).fill(1, 0, 0, 1, 0).fill(2, 0, 0, 1, 10).go("judge(0, 2) = 1 \n judge(1, 2) = 1 \n judge(2, 2) = -1 \n mend(0, 0, 0) = 1");
        run.go("judge(0, 2) = 0 \n judge(1, 2) = 0 \n judge(2, 2) = 0 \n off(0) = 0 \n mend(1, 1, 0) = 2 \n judge(0, 2) = 1 \n judge(0, 1) = -1 \n judge(2, 2) = 1");
        run.go("off(1) = 10 \n judge(2, 2) = -1 \n done(2, 2) = 4 \n judge(2, 2) = 0 \n judge(2, 0) = -1");
    }

    private static void dayFits() {
        Run run = Run.of("it doesn't FIT").is(DOLL, 0).go("arm(0, 0, 0, 6, 0, 0) = 0 \n arm(0, 0, 0, 7, 0, 0) = 1 \n arm(6, 0, 0, 7, 0, 0) = 2 \n arm(6, 0, 0, 8, 0, 0) = 3");
        run.go("arm(4, 0, 0, 4, 0, 0) = 4 \n row(0, 2, 2) = 1");
        int[] left = {-1, 0, -1, 0, -1};
        int[] right = {0, 0, 0, 0, -1};
        for (int i = 0; i < 5; i++) {
            run.is("set(0, 0, " + i + ")", 1).is("set(0, 1, 0)", 1).is("judge(0, 1)", left[i]).is("set(0, 1, 1)", 1).is("judge(0, 1)", right[i]);
        }
    }

    private static void dayNumbers() {
        Run run = with(Run.of("(an ARM; 10 times a DOLL and the SIDE)"), 5, DOLL).is("arm(4, 0, 0, 5, 5, 5)", 0).is("row(0, 3, 2)", 1);
        long[] spots = {0, 1, 10, 11, 20, 21, 30, 31, 40, 41};
        for (long spot : spots) {
            run.is("set(0, 1, " + spot + ")", 1).is("judge(0, 1)", -1);
        }
        long[] none = {2, 9, 12, 19, 42, 50, 51, 99, 100, -1, -9, -10, -11, 2147483647, -2147483648, -2147483647};
        for (long spot : none) {
            run.is("set(0, 1, " + spot + ")", 1).is("judge(0, 1)", 0);
        }
        run.is("set(0, 1, 0)", 1);
        long[] arms = {1, 8, -1, 2147483647, -2147483648};
        for (long arm : arms) {
            run.is("set(0, 0, " + arm + ")", 1).is("judge(0, 1)", 0).is("done(0, 1)", -6);
        }
        run.go("set(0, 0, 4294967296) = 1 \n judge(0, 1) = -1 \n set(0, 1, 4294967337) = 1 \n done(0, 1) = 1 \n on(4, 1) = 0");
    }

    private static void behindBoth() {
        Run run = Run.of("BEHIND it: how many DOLLS have both ARMS").is(DOLL, 0).is(DOLL, 1).is(LEFT, 0).is(RIGHT, 1).is(LEFT, 2).is(RIGHT, 3);
        run.fill(0, 0, 0, 1, 1, 2, 10, 3, 11).go("behind(0, 0, 0) = 0 \n behind(0, 1, 0) = 0 \n behind(0, 2, 0) = 1 \n behind(0, 3, 0) = 1 \n behind(0, 4, 0) = 2");
        run.go("behind(0, 5, 0) = -5 \n behind(0, 4, 3) = -5 \n behind(0, 4, -1) = -5 \n mend(1, 0, 1) = 1 \n behind(0, 1, 0) = 1 \n behind(0, 2, 0) = -6");
        run.go("status(3) = 0 \n mend(0, 0, 0) = 2 \n behind(0, 0, 0) = 1 \n status(3) = 1");
    }

    private static void behindUnlikeAndHer() {
        Run run = Run.of("UNLIKE of all that are on together; how many DOLLS are HER", "doll(5, 5, 0, 0, 1, 0, 2) = 0 \n doll(5, 5, 0, 0, 1, 0, 0) = 1");
        run.go("arm(0, 0, 0, 5, 4, 0) = 0 \n arm(0, 0, 1, 5, 6, 0) = 1 \n arm(0, 0, 0, 5, 5, 0) = 2 \n arm(0, 0, 1, 5, 2, 0) = 3").fill(0, 0, 0, 1, 1, 2, 10, 3, 11);
        run.go("behind(0, 0, 1) = 0 \n behind(0, 0, 2) = 2 \n behind(0, 1, 1) = 1 \n behind(0, 2, 1) = 2 \n behind(0, 2, 2) = 2 \n behind(0, 3, 1) = 2");
        run.go("behind(0, 3, 2) = 2 \n behind(0, 4, 1) = 5 \n behind(0, 4, 2) = 1 \n tell(0, 2, 1) = 2 \n behind(0, 4, 2) = 0 \n behind(0, 1, 2) = 2 \n tell(1, 2, 3) = 0");
        run.go("behind(0, 4, 2) = 1 \n mend(3, 1, 1) = 1 \n behind(0, 0, 1) = 3 \n behind(0, 3, 1) = 5");
        Run most = with(Run.of("the most"), 5, "doll(0, 0, 0, 0, 1, 0, 40)");
        with(most, 8, "arm(4, 0, 0, 1, 9, 9)").fill(0, 0, 0, 1, 1, 2, 10, 3, 11, 4, 20, 5, 21, 6, 30, 7, 31);
        most.go("behind(0, 8, 1) = 160 \n behind(0, 8, 2) = 5 \n behind(0, 8, 0) = 4 \n tell(0, 2, 39) = 40 \n behind(0, 8, 2) = 4 \n behind(0, 1, 2) = 5");
    }

    private static void behindChangesNothing() {
        Run run = Run.of("(nothing is changed)").is("doll(5, 5, 0, 0, 7, 0, 2)", 0).is(LEFT, 0).fill(0, 0, 0).go("judge(0, 1) = -1 \n behind(0, 1, 0) = 0 \n behind(0, 1, 1) = 5");
        run.go("behind(0, 1, 2) = 0 \n on(0, 0) = -1 \n status(4) = 0 \n status(5) = 0 \n status(2) = 1 \n dollOf(0, 8) = 1 \n judge(0, 1) = -1 \n done(0, 1) = 1");
        run.go("status(5) = 7 \n on(0, 0) = 0 \n dollOf(0, 8) = 0");
    }
}
