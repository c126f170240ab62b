/**
 * The boundary cases of what is told and changes nothing (promises 20 to 32, "3. WHAT COMES OF IT" up to BEHIND):
 * one test for each sentence, which is quoted.
 */
public final class BoundsOfAnswersTest {
    private static final String LEFT = "arm(0, 0, 0, 5, 5, 5)";
    private static final String RIGHT = "arm(0, 0, 1, 5, 5, 5)";
    private static final String DOLL = "doll(5, 5, 5, 0, 1, 0, 0)";

    public static void main(String[] args) {
        mayBits();
        mayOnlyWhatFits();
        bestOfSeveral();
        bestNone();
        wholeOfNothing();
        wholeFull();
        wholeAsManyAsCanBe();
        wholeLeastUnlike();
        wholeMostUnlike();
        wholeAsThingsStand();
        givenSides();
        givenFirstByRows();
        givenNoneBehindAll();
        castOfSeveralTheLeast();
        castSizesAndShades();
        castMostSides();
        castLeastUnlike();
        castAnArmMore();
        castAsThingsStand();
        teaMinutes();
        teaNineAtMost();
        comesBounds();
        Due.end("BoundsOfAnswersTest");
    }

    private static Run with(String sentence, int count, String call) {
        return with(Run.of(sentence), count, call);
    }

    private static Run with(Run run, int count, String call) {
        for (int i = 0; i < count; i++) {
            run.is(call, i);
        }
        return run;
    }

    private static void mayBits() {
        Run run = with("MAY: ARMS (bits) in THE DRAWER that FIT a SIDE of a DOLL that is empty (0 if it isn't)", 8, LEFT).is(DOLL, 0);
        run.go("may(0, 0) = 255 \n may(0, 1) = 0 \n mend(7, 0, 0) = 1 \n may(0, 0) = 0").is(DOLL, 1);
        run.go("may(1, 0) = 127 \n mend(0, 1, 0) = 2 \n may(1, 0) = 0 \n off(7) = 0 \n may(0, 0) = 254 \n may(0, 1) = 0");
        run.go("may(1, 2) = -6 \n may(1, -1) = -6 \n may(2, 0) = -1 \n may(-1, 0) = -1");
        Run.of("no ARMS").is(DOLL, 0).go("may(0, 0) = 0 \n may(0, 1) = 0");
    }

    private static void mayOnlyWhatFits() {
        Run run = Run.of("that FIT", "doll(5, 0, 0, 0, 1, 0, 0) = 0");
        run.go("arm(0, 0, 0, 3, 0, 0) = 0 \n arm(0, 0, 0, 4, 0, 0) = 1 \n arm(0, 0, 0, 6, 0, 0) = 2 \n arm(0, 0, 0, 7, 0, 0) = 3");
        run.go("arm(6, 0, 0, 7, 0, 0) = 4 \n arm(6, 0, 0, 8, 0, 0) = 5 \n arm(4, 0, 0, 6, 0, 0) = 6 \n arm(4, 0, 0, 7, 0, 0) = 7");
        run.go("may(0, 0) = 86 \n may(0, 1) = 64");
    }

    private static void bestOfSeveral() {
        Run run = with("BEST: of those the one least UNLIKE, of several the first", 8, LEFT).is(DOLL, 0).is("best(0, 0)", 0);
        run.go("dye(0, 0, 4) = 5 \n best(0, 0) = 1 \n dye(1, 0, 6) = 5 \n best(0, 0) = 2 \n dye(7, 0, 4) = 5 \n best(0, 0) = 2");
        for (int i = 2; i < 7; i++) {
            run.is("dye(" + i + ", 0, 3)", 5);
        }
        run.go("best(0, 0) = 0 \n dye(0, 0, 3) = 4 \n best(0, 0) = 1 \n dye(1, 0, 3) = 6 \n best(0, 0) = 7 \n dye(7, 0, 3) = 4 \n best(0, 0) = 0");
    }

    private static void bestNone() {
        Run run = Run.of("BEST; NONE").is(DOLL, 0).go("best(0, 0) = -1 \n best(0, 1) = -1").is(LEFT, 0);
        run.go("best(0, 0) = 0 \n best(0, 1) = -1 \n mend(0, 0, 0) = 1 \n best(0, 0) = -1").is(LEFT, 1).go("best(0, 0) = -1 \n off(0) = 0 \n best(0, 0) = 0");
        run.go("best(0, 2) = -16 \n best(0, -1) = -16 \n best(1, 0) = -11 \n best(-1, 0) = -11");
    }

    private static void wholeOfNothing() {
        Run.of("WHOLE of no ARMS and no DOLLS", "whole(0) = 0 \n whole(1) = 0 \n given(0) = -15 \n given(-1) = -15");
        Run.of("WHOLE of no DOLLS").is(LEFT, 0).go("whole(0) = 0 \n whole(1) = 0 \n given(0) = -15");
        Run.of("WHOLE of no ARMS").is(DOLL, 0).go("whole(0) = 0 \n whole(1) = 0 \n given(0) = -1 \n given(1) = -1 \n given(2) = -15");
        Run.of("none FITS").is(DOLL, 0).go("arm(0, 0, 0, 7, 5, 5) = 0 \n whole(0) = 0 \n whole(1) = 0 \n given(0) = -1 \n given(1) = -1");
        Run all = Run.of("no SIDE is empty").is(DOLL, 0).is(LEFT, 0).is(RIGHT, 1).is(LEFT, 2).go("mend(0, 0, 0) = 1 \n mend(1, 0, 1) = 2");
        all.go("whole(0) = 0 \n whole(1) = 0 \n given(0) = -1 \n given(1) = -1 \n given(2) = -15");
        Run drawer = Run.of("THE DRAWER is empty").is(DOLL, 0).is(LEFT, 0).go("mend(0, 0, 0) = 1 \n whole(0) = 0 \n given(0) = -1 \n given(1) = -1");
        drawer.go("whole(-1) = -5 \n whole(2) = -5");
    }

    private static void wholeFull() {
        Run run = with("8 ARMS and 10 SIDES", 8, "arm(4, 0, 0, 5, 5, 5)");
        with(run, 5, DOLL).go("whole(0) = 8 \n whole(1) = 0");
        for (int i = 0; i < 8; i++) {
            run.is("given(" + i + ")", i);
        }
        run.go("given(8) = -1 \n given(9) = -1 \n given(10) = -15 \n mend(0, 4, 1) = 1 \n whole(0) = 7 \n given(0) = 1 \n given(6) = 7 \n given(7) = -1");
        run.is("given(9)", -1);
        Run one = with("8 ARMS and 2 SIDES", 8, "arm(4, 0, 0, 5, 5, 5)").is(DOLL, 0);
        one.go("whole(0) = 2 \n given(0) = 0 \n given(1) = 1 \n dye(0, 0, 4) = 5 \n dye(1, 0, 6) = 5 \n given(0) = 2 \n given(1) = 3 \n whole(1) = 0");
        Run five = with("10 SIDES and 1 ARM", 5, "doll(5, 5, 5, 0, 1, 0, 0)").is("arm(4, 0, 1, 5, 5, 5)", 0);
        five.go("whole(0) = 1 \n given(0) = 0 \n given(9) = -1 \n tell(4, 0, 2) = 0 \n given(0) = 0 \n dye(0, 0, 4) = 5 \n given(0) = -1 \n given(8) = 0");
    }

    private static void wholeAsManyAsCanBe() {
        // a chain: arm i fits dolls i and i + 1 (sizes 0, 2, 4, 6, 8; arms 1, 3, 5, 7), and one more the first alone
        Run run = Run.of("as many as can be");
        for (int d = 0; d < 5; d++) {
            run.is("doll(" + 2 * d + ", 0, 0, 0, 1, 0, 0)", d);
        }
        for (int i = 0; i < 4; i++) {
            run.is("arm(0, 0, 0, " + (2 * i + 1) + ", 0, 0)", i);
        }
        run.go("whole(0) = 4 \n whole(1) = 8 \n given(0) = 0 \n given(2) = 1 \n given(6) = 3 \n given(8) = -1");
        run.go("arm(0, 0, 0, 0, 9, 9) = 4 \n whole(0) = 5 \n whole(1) = 26 \n given(0) = 4 \n given(2) = 0 \n given(8) = 3");
    }

    private static void wholeLeastUnlike() {
        // 0 is nearer to both dolls, 1 much further from the second
        Run run = Run.of("and of such partings the least UNLIKE together", "doll(5, 5, 0, 0, 1, 0, 0) = 0 \n doll(5, 0, 0, 0, 1, 0, 0) = 1");
        run.go("arm(0, 0, 0, 5, 4, 0) = 0 \n arm(0, 0, 0, 5, 7, 0) = 1 \n whole(0) = 2 \n whole(1) = 6 \n given(0) = 1 \n given(2) = 0");
        run.go("dye(1, 0, 4) = 7 \n whole(1) = 5 \n given(0) = 0 \n given(2) = 1 \n dye(0, 0, 5) = 4 \n whole(1) = 4 \n given(0) = 0 \n given(2) = 1");
    }

    private static void wholeMostUnlike() {
        Run run = with("8 ARMS, each as UNLIKE as one that FITS can be", 5, "doll(0, 0, 0, 0, 1, 0, 40)");
        for (int i = 0; i < 8; i++) {
            run.is("arm(6, 0, " + i % 2 + ", 2, 9, 9)", i);
        }
        run.go("whole(0) = 8 \n whole(1) = 176 \n given(0) = 0 \n given(7) = 7 \n given(8) = -1 \n dearest(0) = 0");
        Run one = Run.of("one SIDE more, however UNLIKE", "doll(0, 0, 0, 0, 1, 0, 0) = 0 \n doll(2, 9, 9, 0, 1, 0, 0) = 1");
        one.go("arm(6, 0, 0, 2, 9, 9) = 0 \n whole(0) = 1 \n whole(1) = 0 \n given(2) = 0 \n given(0) = -1");
        one.go("arm(0, 0, 0, 3, 0, 0) = 1 \n whole(0) = 2 \n whole(1) = 42 \n given(0) = 0 \n given(2) = 1");
    }

    /** Asked ahead of and behind what changes the SIDES, the ARMS or both. */
    private static void wholeAsThingsStand() {
        Run run = with("all SIDES come to be filled", 3, "arm(4, 0, 0, 5, 5, 5)").is(DOLL, 0).go("whole(0) = 2 \n mend(0, 0, 0) = 1 \n whole(0) = 1");
        run.go("mend(1, 0, 1) = 2 \n whole(0) = 0 \n whole(1) = 0 \n dearest(0) = 2 \n cast() = 0 \n off(1) = 1 \n whole(0) = 1 \n given(1) = 1");
        Run dolls = with("DOLLS are fewer by the IMAGE", 2, LEFT).is(DOLL, 0).go("whole(0) = 1 \n image() = 2").is(DOLL, 1).go("whole(0) = 2 \n given(2) = 1");
        dolls.go("restore() = 2 \n whole(0) = 1 \n given(0) = 0 \n given(2) = -15").is(DOLL, 1).go("whole(0) = 2 \n given(2) = 1 \n dye(0, 0, 4) = 5 \n whole(1) = 1");
        dolls.go("restore() = 2 \n whole(1) = 0").is("doll(4, 5, 5, 0, 1, 0, 0)", 1).go("whole(1) = 2 \n restore() = 2 \n given(0) = 0");
        Run arms = Run.of("ARMS are fewer by the IMAGE").is(DOLL, 0).is(LEFT, 0).is("image()", 1).is(RIGHT, 1).go("whole(0) = 2 \n restore() = 1 \n whole(0) = 1");
        arms.is(LEFT, 1).go("whole(0) = 1 \n given(1) = -1 \n dye(0, 0, 6) = 5 \n given(0) = 1 \n restore() = 1 \n given(0) = 0");
        arms.go("tell(0, 0, 2) = 0 \n whole(1) = 0 \n dye(0, 0, 1) = 5 \n whole(1) = 0 \n tell(0, 0, 1) = 2 \n whole(1) = 9 \n dye(0, 1, 0) = 5 \n whole(1) = 4");
    }

    private static void givenSides() {
        Run run = Run.of("which ARM the i-th SIDE has (SIDES by DOLLS, left ahead of right; NONE also if it isn't empty)");
        with(run, 5, DOLL).is(RIGHT, 0).is(LEFT, 1).go("given(0) = 1 \n given(1) = 0 \n given(2) = -1 \n given(9) = -1 \n given(10) = -15");
        run.go("mend(0, 4, 1) = 1 \n given(1) = -1 \n given(9) = -1 \n given(0) = 1 \n mend(1, 0, 0) = 2 \n given(0) = -1").is(RIGHT, 2);
        run.go("given(0) = -1 \n given(1) = 2 \n given(3) = -1 \n off(0) = 41 \n given(1) = 0 \n given(3) = 2 \n given(9) = -1");
        run.each("given(#)", -15, -1, 10, 2147483647, -2147483648);
    }

    private static void givenFirstByRows() {
        // three arms alike for three dolls alike: the row is theirs; then the third is as good for all, the first worse for the first
        Run run = with("of several partings the first by rows", 3, LEFT);
        with(run, 3, "doll(5, 5, 5, 2, 1, 0, 0)").go("given(0) = 0 \n given(2) = 1 \n given(4) = 2 \n whole(1) = 0");
        run.go("tell(0, 0, 0) = 2 \n dye(0, 0, 0) = 5 \n given(0) = 1 \n given(2) = 0 \n given(4) = 2");
        run.go("tell(1, 0, 0) = 2 \n given(0) = 1 \n given(2) = 2 \n given(4) = 0 \n dye(2, 1, 4) = 5 \n dye(1, 1, 6) = 5");
        run.go("whole(1) = 2 \n given(0) = 1 \n given(2) = 2 \n given(4) = 0");
        // two ways of 4 together: the one in which the first has the lesser number
        Run two = Run.of("two ways alike", "doll(5, 3, 0, 0, 1, 0, 0) = 0 \n doll(5, 5, 0, 0, 1, 0, 0) = 1 \n arm(0, 0, 0, 5, 6, 0) = 0");
        two.go("arm(0, 0, 0, 5, 6, 0) = 1 \n whole(1) = 4 \n given(0) = 0 \n given(2) = 1 \n dye(0, 0, 7) = 6 \n given(0) = 0 \n given(2) = 1 \n whole(1) = 5");
    }

    private static void givenNoneBehindAll() {
        Run run = Run.of("NONE behind all ARMS").is("arm(4, 0, 0, 5, 5, 5)", 0);
        with(run, 2, DOLL).go("given(0) = 0 \n given(1) = -1 \n given(2) = -1 \n given(3) = -1");
        run.go("arm(4, 0, 0, 5, 5, 5) = 1 \n given(0) = 0 \n given(1) = 1 \n given(2) = -1");
        // as good for another: the first SIDE has it; better for another: the other
        run.go("dye(0, 0, 4) = 5 \n dye(1, 0, 4) = 5 \n given(0) = 0 \n given(1) = 1 \n tell(1, 0, 2) = 0 \n given(0) = -1 \n given(1) = -1");
        run.go("given(2) = 0 \n given(3) = 1 \n whole(1) = 0");
    }

    private static void castOfSeveralTheLeast() {
        Run.of("CAST anew: of several the least", "cast() = 0").is(LEFT, 0).is("cast()", 0);
        Run run = Run.of("no SIDE is empty").is(DOLL, 0).is(LEFT, 0).is(RIGHT, 1).go("mend(0, 0, 0) = 1 \n mend(1, 0, 1) = 2 \n cast() = 0");
        run.go("off(1) = 1 \n cast() = 0 \n off(0) = 0 \n cast() = 0");
        Run two = Run.of("left and right alike: the left").is(DOLL, 0).go("cast() = 55 \n tell(0, 0, 2) = 0 \n cast() = 50");
        two.is(LEFT, 0).go("cast() = 150 \n tell(0, 0, 0) = 2 \n cast() = 155");
        Run dolls = Run.of("DOLLS alike: of several the least", "doll(7, 8, 0, 0, 1, 0, 0) = 0 \n doll(4, 9, 0, 0, 1, 0, 0) = 1 \n cast() = 49");
        dolls.go("doll(4, 3, 0, 1, 1, 0, 0) = 2 \n cast() = 43 \n doll(4, 1, 1, 0, 1, 0, 0) = 3 \n cast() = 43 \n tell(3, 0, 1) = 0 \n cast() = 41");
    }

    private static void castSizesAndShades() {
        int[][] dolls = {{0, 0, 0}, {9, 9, 99}, {0, 9, 9}, {9, 0, 90}};
        for (int[] doll : dolls) {
            Run run = Run.of("100 times SIDE, 10 times SIZE and SHADE", "doll(" + doll[0] + ", " + doll[1] + ", 0, 1, 1, 0, 0) = 0");
            run.is("cast()", doll[2]).is("arm(0, 0, 0, " + doll[0] + ", " + doll[1] + ", 0)", 0).is("cast()", 100 + doll[2]);
            run.go("mend(0, 0, 0) = 1").is("cast()", 100 + doll[2]).is("arm(0, 0, 1, " + doll[0] + ", " + doll[1] + ", 0)", 1).is("cast()", 0);
        }
    }

    private static void castMostSides() {
        // the left of 0 can be filled, and the right of 1 alone can be filled anew besides
        Run run = Run.of("by which most SIDES can be filled then", "doll(2, 0, 0, 0, 1, 0, 0) = 0 \n doll(8, 3, 0, 0, 1, 0, 0) = 1");
        run.go("arm(0, 0, 0, 2, 9, 9) = 0 \n arm(0, 0, 1, 2, 0, 0) = 1 \n arm(0, 0, 0, 8, 3, 0) = 2 \n cast() = 183");
        // one arm for two: the one anew frees it; where the other is nearer
        Run frees = Run.of("what it frees", "doll(4, 4, 0, 0, 1, 0, 0) = 0 \n doll(6, 6, 0, 0, 1, 0, 0) = 1");
        frees.go("arm(0, 0, 0, 5, 4, 0) = 0 \n arm(0, 0, 1, 4, 0, 0) = 1 \n arm(0, 0, 1, 6, 0, 0) = 2 \n cast() = 66 \n dye(0, 0, 6) = 4 \n cast() = 44");
    }

    private static void castLeastUnlike() {
        Run run = Run.of("and of these least UNLIKE").is(DOLL, 0).is("arm(0, 0, 0, 5, 5, 5)", 0).is("arm(0, 0, 1, 5, 0, 0)", 1);
        run.go("cast() = 155 \n dye(1, 0, 5) = 0 \n cast() = 0 \n dye(1, 1, 5) = 0 \n cast() = 0 \n dye(0, 0, 0) = 5 \n cast() = 0");
        // one cast anew is 5 UNLIKE, by its WEAR; the left one 5 now, by its SHADE; with WEAR 4 it is 6
        run.go("dye(0, 1, 4) = 5 \n cast() = 55 \n dye(0, 0, 1) = 0 \n cast() = 0");
    }

    private static void castAnArmMore() {
        Run run = with("an ARM more (KIND 0), also if there is no room for it", 8, "arm(0, 0, 0, 0, 0, 0)");
        run.go("doll(9, 7, 0, 0, 1, 0, 0) = 0 \n cast() = 97 \n status(0) = 8 \n armOf(8, 0) = -5 \n whole(0) = 0 \n mend(0, 0, 0) = -6 \n cast() = 97");
        Run full = with("8 ARMS that are given", 8, "arm(4, 0, 0, 5, 5, 0)");
        with(full, 5, "doll(5, 5, 0, 0, 1, 0, 0)").go("cast() = 55 \n whole(0) = 8 \n given(8) = -1");
    }

    /** Doll 0 is costly (WEAR 9 wanted), doll 1 is not; asked ahead of and behind what changes. */
    private static void castAsThingsStand() {
        Run run = Run.of("CAST as things stand", "doll(8, 3, 9, 0, 1, 0, 0) = 0 \n doll(2, 3, 0, 0, 1, 0, 0) = 1 \n arm(0, 0, 0, 2, 3, 0) = 0 \n cast() = 123");
        run.go("arm(0, 0, 1, 2, 3, 0) = 1 \n cast() = 83 \n mend(0, 1, 0) = 1 \n cast() = 83 \n off(1) = -6 \n mend(1, 1, 1) = 2 \n cast() = 83");
        run.go("off(0) = 10 \n cast() = 83 \n dye(0, 0, 9) = 3 \n cast() = 83 \n dye(0, 0, 3) = 9 \n mend(0, 1, 0) = 3 \n off(1) = 11 \n image() = 2");
        run.go("cast() = 83 \n dye(1, 0, 4) = 3 \n cast() = 83 \n restore() = 2 \n cast() = 83");
        Run bare = Run.of("the arm for one SIDE came on", "doll(8, 3, 9, 0, 1, 0, 0) = 0 \n doll(2, 3, 0, 0, 1, 0, 0) = 1 \n arm(6, 0, 0, 2, 3, 0) = 0");
        bare.go("cast() = 123 \n mend(0, 1, 0) = 1 \n cast() = 123 \n off(0) = 10 \n cast() = 123 \n tell(1, 0, 2) = 0 \n cast() = 120");
        // one arm for three SIDES can't fill two of them: the one between, which is costly, is not better than the first
        Run shared = Run.of("an ARM fills one SIDE alone", "doll(4, 3, 0, 0, 1, 0, 0) = 0 \n doll(5, 3, 9, 0, 1, 0, 0) = 1 \n doll(6, 3, 0, 0, 1, 0, 0) = 2");
        shared.go("arm(0, 0, 0, 5, 3, 9) = 0 \n cast() = 43 \n arm(0, 0, 1, 5, 3, 9) = 1 \n cast() = 43 \n tell(0, 0, 2) = 0 \n cast() = 40");
    }

    private static void teaMinutes() {
        Run run = Run.of("TEA: minutes (0 to 9)", "doll(5, 9, 0, 0, 1, 0, 0) = 0 \n doll(5, 0, 0, 0, 1, 0, 0) = 1 \n arm(0, 0, 0, 5, 0, 0) = 0");
        run.go("tea(0, 0) = 9 \n tea(0, 1) = 0 \n dye(0, 0, 1) = 0 \n tea(0, 0) = 8 \n tea(0, 1) = 0 \n dye(0, 0, 8) = 1 \n tea(0, 0) = 1");
        run.go("dye(0, 0, 9) = 8 \n tea(0, 0) = 0 \n tea(0, 1) = 0 \n armOf(0, 4) = 9 \n tell(0, 0, 2) = 0 \n dye(0, 0, 0) = 9 \n tea(0, 0) = 0");
        run.go("tell(0, 0, 1) = 2 \n tea(0, 0) = 9 \n armOf(0, 4) = 0 \n tea(1, 0) = -1 \n tea(0, 2) = -1");
    }

    private static void teaNineAtMost() {
        Run run = Run.of("each of which makes SHADE 1 more (9 at most) .. of several the least", "doll(5, 9, 0, 0, 1, 0, 0) = 0 \n doll(5, 8, 0, 0, 1, 0, 0) = 1");
        run.go("arm(1, 5, 0, 5, 0, 0) = 0 \n arm(1, 9, 0, 5, 0, 0) = 1 \n arm(1, 0, 0, 5, 0, 0) = 2 \n arm(6, 9, 0, 5, 9, 9) = 3 \n arm(2, 9, 0, 5, 8, 9) = 4");
        run.go("tea(0, 0) = 4 \n tea(0, 1) = 3 \n tea(1, 0) = 0 \n tea(1, 1) = 0 \n tea(2, 0) = 9 \n tea(2, 1) = 8 \n tea(3, 0) = 0 \n tea(4, 0) = 1 \n tea(4, 1) = 0");
    }

    private static void comesBounds() {
        Run run = Run.of("COMES: within n DAYS (0 to 99): 1000 times n by DAYS, n and 1 together (cut)").is(DOLL, 0);
        run.go("comes(0, 0) = 0 \n comes(0, 1) = 500 \n comes(0, 2) = 666 \n comes(0, 99) = 990 \n comes(0, 100) = -6 \n comes(0, -1) = -6");
        run.go("tell(0, 3, 99) = 0 \n comes(0, 0) = 0 \n comes(0, 1) = 9 \n comes(0, 99) = 497 \n comes(0, 50) = 333 \n comes(1, 0) = -1 \n comes(-1, 0) = -1");
        run.go("tell(0, 3, 1) = 99 \n comes(0, 1) = 333 \n comes(0, 2) = 500 \n dollOf(0, 7) = 1");
    }
}
