import java.io.IOException;

/**
 * The document from promise 1 to promise 42: what each says of its call, word for word, and a run of calls that shows
 * it, with answers reckoned by hand. That none is left out is held against ../shared/DOC.md.
 */
public final class DocumentPromisesTest {
    private static final String LEFT = "arm(0, 0, 0, 5, 5, 5)";
    private static final String DOLL = "doll(5, 5, 5, 0, 1, 0, 0)";
    private static final String ARM_TEXT = "arm 0 0 0 5 5 5";

    public static void main(String[] args) throws IOException {
        promises1To5();
        promises6To8();
        promises9To12();
        promises13To17();
        promises18To21();
        promises22To25();
        promises26To29();
        promises30To33();
        promises34To37();
        promises38To39();
        promises40To41();
        promise42();
        Document.isQuoted("## Promise 1: A new object", "## Not promised");
        Due.end("DocumentPromisesTest");
    }

    private static void promises1To5() {
        Document.says("No ARMS, no DOLLS.", "status(0) = 0;  status(1) = 0;  armOf(0, 0) = -5;  dollOf(0, 0) = -5;  image() = 0;  whole(0) = 0");
        Document.says("SHELF s holds a new ROW: 1. -1; -4; -6 SORT; -7 n above 160.", """
            row(0, 3, 160) = 1;  holds(0) = 103;  set(0, 159, 4) = 1;  row(0, 3, 160) = 1;  element(0, 159) = 0;  row(7, 0, 0) = 1;  holds(7) = 100
            row(-1, 0, 1) = -1;  row(8, 0, 1) = -1;  row(0, 0, -1) = -4;  row(0, 4, 1) = -6;  row(0, -1, 1) = -6;  row(0, 0, 161) = -7;  holds(0) = 103
            """);
        Document.says("Element i of the ROW becomes v: 1. -1; -2; -3; -5.").is(LEFT, 0).go("""
            row(0, 2, 3) = 1;  set(0, 1, 8) = 1;  element(0, 0) = 0;  element(0, 1) = 8;  element(0, 2) = 0;  set(0, 1, -9) = 1;  element(0, 1) = -9
            set(8, 0, 1) = -1;  set(-1, 0, 1) = -1;  show(1, 0) = 1;  set(1, 0, 1) = -2;  set(2, 0, 1) = -3;  set(0, 3, 1) = -5;  set(0, -1, 1) = -5
            """);
        Document.says("Elements i, i + 1, .. of the ROW in SHELF p, n of them, come to elements j, j + 1, .. of that in q (as they were ahead): 1.")
            .fill(0, 1, 2, 3, 4, 5).fill(1, 7, 8, 9).go("""
            copy(0, 1, 2, 1, 2) = 1;  element(1, 0) = 7;  element(1, 1) = 3;  element(1, 2) = 4;  element(0, 2) = 3
            copy(0, 0, 0, 1, 4) = 1;  element(0, 0) = 1;  element(0, 1) = 1;  element(0, 2) = 2;  element(0, 3) = 3;  element(0, 4) = 4
            copy(0, 0, 1, 0, 4) = 1;  element(0, 0) = 1;  element(0, 1) = 2;  element(0, 2) = 3;  element(0, 3) = 4;  element(0, 4) = 4
            """);
        Document.says("-1; -2 also of two SORTS (when both hold something); -3 either; -4 n; -5 i or j below 0, or an end that isn't there.").is(LEFT, 0).go("""
            row(0, 2, 3) = 1;  row(1, 1, 3) = 1;  show(2, 0) = 1;  row(4, 2, 2) = 1;  copy(8, 0, 0, 0, 1) = -1;  copy(0, -1, 0, 0, 1) = -1
            copy(0, 1, 0, 0, 1) = -2;  copy(0, 2, 0, 0, 1) = -2;  copy(2, 0, 0, 0, 1) = -2;  copy(2, 3, 0, 0, 1) = -2;  copy(3, 2, 0, 0, 1) = -2
            copy(0, 3, 0, 0, 1) = -3;  copy(3, 0, 0, 0, 1) = -3;  copy(3, 3, 0, 0, -1) = -3;  copy(0, 4, -1, 0, -1) = -4;  copy(0, 4, -1, 0, 1) = -5
            copy(0, 4, 0, -1, 1) = -5;  copy(0, 4, 2, 0, 2) = -5;  copy(0, 4, 0, 1, 2) = -5;  copy(0, 4, 1, 0, 2) = 1;  copy(0, 4, 3, 2, 0) = 1
            copy(0, 4, 4, 2, 0) = -5;  copy(0, 4, 3, 3, 0) = -5
            """);
        Document.says("Element i of the ROW; 0 if there is none (nothing is refused).").is(LEFT, 0).fill(0, 6, 7).go("""
            element(0, 0) = 6;  element(0, 1) = 7;  element(0, 2) = 0;  element(0, -1) = 0;  element(1, 0) = 0;  element(8, 0) = 0;  element(-1, 0) = 0
            show(0, 0) = 1;  element(0, 0) = 0
            """).each("status(#)", 0, 11, 12, 13, 14, 15, 16, 17);
    }

    private static void promises6To8() {
        Document.says("SHELF s holds an ARM, or NOTHING (arm NONE): 1, 0. -1.").is(LEFT, 0).is(LEFT, 1).go("""
            show(3, 1) = 1;  holds(3) = 1;  show(3, 0) = 1;  holds(3) = 0;  show(3, -1) = 0;  holds(3) = -1;  row(3, 1, 1) = 1;  show(3, -1) = 0
            holds(3) = -1;  show(8, 0) = -1;  show(-1, -1) = -1;  show(3, 2) = -1;  show(3, -2) = -1;  status(11) = 4
            """);
        Document.says("What SHELF s holds: NONE NOTHING, or no such SHELF; an ARM's number; 100 and the SORT of a ROW.").is(LEFT, 0).is(LEFT, 1).go("""
            holds(0) = -1;  holds(8) = -1;  holds(-1) = -1;  show(0, 1) = 1;  holds(0) = 1;  row(0, 0, 5) = 1;  holds(0) = 100;  row(0, 1, 5) = 1
            holds(0) = 101;  row(0, 2, 5) = 1;  holds(0) = 102;  row(0, 3, 5) = 1;  holds(0) = 103;  status(11) = 0
            """);
        Document.says("What the ARM in SHELF s, taken for one of a KIND, says: ARM its SIZE; STAINED, ROBBED, GLUED its SHADE as seen; CAST, OLD its WEAR as "
            + "seen; DOUBLED its SIDE.", """
            arm(6, 2, 1, 4, 5, 6) = 0;  show(0, 0) = 1;  says(0, 0) = 4;  says(0, 1) = 7;  says(0, 3) = 7;  says(0, 6) = 7;  dye(0, 0, 1) = 5;  says(0, 3) = 3
            arm(5, 3, 1, 8, 5, 1) = 1;  show(1, 1) = 1;  says(1, 0) = 8;  says(1, 2) = 6;  says(1, 5) = 6;  arm(2, 3, 0, 7, 5, 1) = 2;  show(2, 2) = 1
            says(2, 0) = 7;  says(2, 2) = 0;  arm(4, 3, 1, 9, 5, 6) = 3;  show(3, 3) = 1;  says(3, 0) = 9;  says(3, 4) = 1;  arm(4, 3, 0, 9, 5, 6) = 4
            show(4, 4) = 1;  says(4, 4) = 0
            """);
        Document.says("-1 SHELF, KIND; -2 also an ARM of another KIND; -3.", """
            arm(1, 2, 1, 4, 5, 6) = 0;  show(0, 0) = 1;  row(1, 0, 1) = 1;  says(8, 0) = -1;  says(-1, 0) = -1;  says(0, 7) = -1;  says(1, -1) = -1;  says(2, 7) = -1
            says(1, 0) = -2;  says(0, 2) = -2;  says(0, 3) = -2;  says(0, 6) = -2;  says(0, 4) = -2;  says(0, 5) = -2;  says(2, 0) = -3;  says(0, 1) = 7
            """);
    }

    private static void promises9To12() {
        Run arm = Document.says("An ARM: the number. -1 KIND; -6; -7.", "arm(7, 10, 0, 5, 5, 5) = -1;  arm(-1, 0, 0, 5, 5, 5) = -1;  arm(0, 0, 0, 5, 5, 10) = -6");
        for (int i = 0; i < 8; i++) {
            arm.is("arm(" + i % 7 + ", 1, 1, 2, 3, " + i + ")", i).is("armOf(" + i + ", 5)", i);
        }
        arm.go("arm(7, 0, 0, 5, 5, 5) = -1;  arm(0, 0, 2, 5, 5, 5) = -6;  arm(0, 0, 0, 5, 5, 5) = -7;  status(17) = 1");
        Run doll = Document.says("A DOLL: the number. -6; -7.", "doll(5, 5, 5, 0, 0, 0, 0) = -6");
        for (int d = 0; d < 5; d++) {
            doll.is("doll(5, 5, 5, 0, 1, " + d + ", 0)", d).is("dollOf(" + d + ", 5)", d);
        }
        doll.go("doll(5, 5, 5, 0, 1, 0, 41) = -6;  doll(5, 5, 5, 0, 1, 0, 0) = -7;  status(17) = 1;  status(1) = 5");
        Document.says("SHADE (what 0), WEAR (1) of an ARM becomes v: what it was. -1; -6.", """
            arm(6, 4, 0, 5, 3, 2) = 0;  dye(0, 0, 9) = 3;  dye(0, 0, 1) = 9;  armOf(0, 4) = 1;  armOf(0, 5) = 2;  dye(0, 1, 0) = 2;  dye(0, 1, 7) = 0
            armOf(0, 4) = 1;  armOf(0, 5) = 7;  dye(1, 2, 10) = -1;  dye(-1, 0, 0) = -1;  dye(0, 2, 0) = -6;  dye(0, -1, 0) = -6;  dye(0, 0, 10) = -6
            dye(0, 1, -1) = -6;  armOf(0, 4) = 1;  armOf(0, 5) = 7
            """);
        Document.says("WISH (what 0), TEARS (1), BEARS (2), DAYS (3) of a DOLL becomes v: what it was. -1; -6.", """
            doll(5, 6, 7, 1, 8, 3, 4) = 0;  tell(0, 0, 2) = 1;  tell(0, 0, 0) = 2;  tell(0, 1, 9) = 3;  tell(0, 1, 2) = 9;  tell(0, 2, 40) = 4;  tell(0, 2, 5) = 40
            tell(0, 3, 99) = 0;  tell(0, 3, 6) = 99;  dollOf(0, 3) = 0;  dollOf(0, 5) = 2;  dollOf(0, 6) = 5;  dollOf(0, 7) = 6;  dollOf(0, 0) = 5
            dollOf(0, 1) = 6;  dollOf(0, 2) = 7;  dollOf(0, 4) = 8;  tell(1, 4, 0) = -1;  tell(-1, 0, 0) = -1;  tell(0, 4, 0) = -6;  tell(0, -1, 0) = -6
            tell(0, 0, 3) = -6;  tell(0, 1, 10) = -6;  tell(0, 2, 41) = -6;  tell(0, 3, 100) = -6;  tell(0, 0, -1) = -6
            """);
    }

    private static void promises13To17() {
        Document.says("Of an ARM: 0 KIND, 1 a, 2 SIDE, 3 SIZE, 4 SHADE, 5 WEAR, 6 SHADE as seen, 7 WEAR as seen, 8 where it is (10 times the DOLL and the side; "
            + "99: in THE DRAWER). -5: no such one, another what.", """
            arm(6, 2, 1, 4, 5, 3) = 0;  armOf(0, 0) = 6;  armOf(0, 1) = 2;  armOf(0, 2) = 1;  armOf(0, 3) = 4;  armOf(0, 4) = 5;  armOf(0, 5) = 3
            armOf(0, 6) = 7;  armOf(0, 7) = 6;  armOf(0, 8) = 99;  armOf(1, 0) = -5;  armOf(-1, 0) = -5;  armOf(0, 9) = -5;  armOf(0, -1) = -5
            doll(5, 5, 5, 0, 1, 0, 0) = 0;  doll(5, 5, 5, 0, 1, 0, 0) = 1;  mend(0, 1, 1) = 1;  armOf(0, 8) = 11;  status(15) = 4
            """);
        Document.says("Of a DOLL: 0 SIZE, 1 SHADE, 2 WEAR, 3 WISH, 4 MINUTES, 5 TEARS, 6 BEARS, 7 DAYS, 8 whether she is HER (1, 0). -5: no such one, another what.", """
            doll(1, 2, 3, 1, 44, 5, 6) = 0;  tell(0, 3, 7) = 0;  dollOf(0, 0) = 1;  dollOf(0, 1) = 2;  dollOf(0, 2) = 3;  dollOf(0, 3) = 1;  dollOf(0, 4) = 44
            dollOf(0, 5) = 5;  dollOf(0, 6) = 6;  dollOf(0, 7) = 7;  dollOf(0, 8) = 1;  dollOf(1, 0) = -5;  dollOf(-1, 0) = -5;  dollOf(0, 9) = -5
            dollOf(0, -1) = -5;  arm(0, 0, 0, 1, 2, 7) = 0;  mend(0, 0, 0) = 44;  dollOf(0, 8) = 0;  tell(0, 2, 7) = 6;  dollOf(0, 8) = 1
            """);
        Document.says("The ARM on a SIDE of a DOLL; NONE. -11; -16 SIDE (counted as -1, -6).").is(LEFT, 0).is(DOLL, 0).go("""
            on(0, 0) = -1;  mend(0, 0, 0) = 1;  on(0, 0) = 0;  on(0, 1) = -1;  on(1, 0) = -11;  on(-1, 2) = -11;  on(0, 2) = -16;  on(0, -1) = -16
            status(11) = 2;  status(16) = 2
            """);
        Document.says("A SHOP by the ROW in SHELF s: how many ITEMS. -1; -2; -3; -6 a FAULT.")
            .shop(ARM_TEXT, 1).shop("arm 0 0 1 5 5 5;doll 5 5 5 2 1 0 0;on 0 0;lies 0 3;off 0", 5).go("status(0) = 2;  dollOf(0, 7) = 3")
            .go("shop(8) = -1;  shop(-1) = -1;  show(0, 0) = 1;  shop(0) = -2;  shop(1) = -3").fault("arm 9", 4);
        Document.says("The FAULT of the latest shop() that came to a ROW; NONE: there was none, or none yet.").is("fault()", -1).fault("ar", 2)
            .go("fault() = 2;  shop(0) = -3;  shop(9) = -1;  fault() = 2;  status(16) = 1").fault("", 0).shop(ARM_TEXT, 1).go("fault() = -1;  fault() = -1")
            .fault("lies 0", 5).go("show(7, 0) = 1;  shop(7) = -2;  fault() = 5");
    }

    private static void promises18To21() {
        Document.says("Whether an ARM FITS a SIDE of a DOLL, wherever it is: 1, 0. -1; -6 SIDE.").is(LEFT, 0).is(DOLL, 0).is("doll(6, 0, 0, 0, 1, 0, 0)", 1).go("""
            fits(0, 0, 0) = 1;  fits(0, 0, 1) = 0;  fits(0, 1, 0) = 1;  mend(0, 0, 0) = 1;  fits(0, 0, 0) = 1;  fits(0, 1, 0) = 1;  fits(0, 1, 1) = 0
            fits(1, 0, 0) = -1;  fits(-1, 0, 0) = -1;  fits(0, 2, 2) = -1;  fits(0, -1, 0) = -1;  fits(0, 0, 2) = -6;  fits(0, 0, -1) = -6
            """);
        Document.says("UNLIKE. -1.", """
            arm(0, 0, 0, 6, 2, 8) = 0;  doll(5, 5, 4, 0, 1, 0, 0) = 0;  unlike(0, 0) = 9;  mend(0, 0, 0) = 1;  unlike(0, 0) = 9;  unlike(1, 0) = -1;  unlike(-1, 0) = -1
            unlike(0, 1) = -1;  unlike(0, -1) = -1;  status(11) = 4
            """);
        Document.says("MAY. -1; -6 SIDE.").is(LEFT, 0).is(LEFT, 1).is(DOLL, 0).go("""
            may(0, 0) = 3;  may(0, 1) = 0;  mend(0, 0, 0) = 1;  may(0, 0) = 0;  may(1, 2) = -1;  may(-1, 0) = -1;  may(0, 2) = -6;  may(0, -1) = -6
            """);
        Document.says("BEST; NONE. -11; -16 SIDE (counted as -1, -6).").is("arm(0, 0, 0, 5, 3, 5)", 0).is(LEFT, 1).is(LEFT, 2).is(DOLL, 0).go("""
            best(0, 0) = 1;  best(0, 1) = -1;  mend(1, 0, 0) = 1;  best(0, 0) = -1;  best(1, 2) = -11;  best(-1, 0) = -11;  best(0, 2) = -16;  best(0, -1) = -16
            status(11) = 2;  status(16) = 2
            """);
    }

    private static void promises22To25() {
        Document.says("WHOLE: how many (what 0), UNLIKE (1). -5 another what.").is(LEFT, 0).is("arm(0, 0, 1, 6, 5, 5)", 1).is(DOLL, 0)
            .go("whole(0) = 2;  whole(1) = 2;  whole(2) = -5;  whole(-1) = -5;  mend(1, 0, 1) = 1;  whole(0) = 1;  whole(1) = 0");
        Document.says("WHOLE: which ARM the i-th SIDE has; NONE. -15 no such SIDE (counted as -5).").is(LEFT, 0).is("arm(0, 0, 1, 6, 5, 5)", 1).is(DOLL, 0).is(DOLL, 1)
            .go("given(0) = 0;  given(1) = 1;  given(2) = -1;  given(3) = -1;  given(4) = -15;  given(-1) = -15;  status(15) = 2;  mend(0, 0, 0) = 1;  given(0) = -1");
        // 4 of the doll, by its WEAR; then none, then of her right SIDE, which she has no ARM for
        Document.says("CAST anew.", """
            cast() = 0;  doll(3, 8, 0, 0, 1, 0, 0) = 0;  cast() = 38;  arm(0, 0, 0, 3, 8, 4) = 0;  cast() = 138;  arm(0, 0, 1, 3, 8, 0) = 1;  cast() = 38
            dye(0, 1, 0) = 4;  cast() = 0;  mend(0, 0, 0) = 1;  cast() = 0;  dye(1, 0, 7) = 8;  cast() = 138
            """);
        Document.says("TEA. -1.", """
            arm(1, 2, 0, 5, 1, 5) = 0;  doll(5, 8, 5, 0, 1, 0, 0) = 0;  tea(0, 0) = 5;  dye(0, 0, 9) = 1;  tea(0, 0) = 0;  tea(1, 0) = -1;  tea(-1, 0) = -1
            tea(0, 1) = -1;  tea(0, -1) = -1
            """);
    }

    private static void promises26To29() {
        Document.says("COMES. -1; -6.").is(DOLL, 0).go("comes(0, 9) = 900;  tell(0, 3, 7) = 0;  comes(0, 4) = 333;  comes(1, 100) = -1;  comes(-1, 0) = -1;  comes(0, 100) = -6;  comes(0, -1) = -6");
        Document.says("QUEUE: how much (i NONE), the i-th. -5 no such i.", """
            queue(-1) = 0;  queue(0) = -5;  doll(0, 0, 0, 0, 9, 2, 0) = 0;  doll(0, 0, 0, 0, 4, 3, 0) = 1;  queue(-1) = 38;  queue(0) = 1;  queue(1) = 0
            queue(2) = -5;  queue(-2) = -5;  status(15) = 3
            """);
        Document.says("FEAST: bits (what 0), TEARS (1). -5 another what; -6.", """
            doll(0, 0, 0, 0, 9, 2, 0) = 0;  doll(0, 0, 0, 0, 4, 3, 0) = 1;  feast(12, 0) = 2;  feast(12, 1) = 3;  feast(13, 0) = 3;  feast(13, 1) = 5
            feast(401, 2) = -5;  feast(0, -1) = -5;  feast(401, 1) = -6;  feast(-1, 0) = -6;  feast(400, 1) = 5
            """);
        Document.says("SHADES (what 0), WEARS (1) of an ARM by the ROW in SHELF s (of as many elements as DOLLS at least). -1 also ARM; -2; -3; -5 fewer elements, another what.")
            .is("arm(0, 0, 0, 5, 5, 4)", 0).is(DOLL, 0).fill(0, 1).go("""
            looks(0, 0, 0) = 32;  looks(0, 0, 1) = 80;  row(1, 2, 3) = 1;  set(1, 0, 2) = 1;  set(1, 1, 77) = 1;  looks(1, 0, 0) = 80;  looks(1, 0, 1) = 136
            looks(8, 0, 0) = -1;  looks(-1, 0, 0) = -1;  looks(0, 1, 0) = -1;  looks(0, -1, 0) = -1;  show(2, 0) = 1;  looks(2, 0, 2) = -2;  looks(3, 0, 2) = -3
            row(4, 2, 0) = 1;  looks(4, 0, 0) = -5;  looks(0, 0, 2) = -5;  looks(0, 0, -1) = -5;  looks(2, 1, 0) = -1
            """);
    }

    private static void promises30To33() {
        Document.says("DEAREST (what 0), SWAP (1); NONE. -15 another what (counted as -5).").is("arm(0, 0, 0, 5, 3, 5)", 0).is("arm(0, 0, 0, 5, 7, 5)", 1).go("""
            dearest(0) = 0;  dearest(1) = -1;  doll(5, 7, 5, 0, 1, 0, 0) = 0;  dearest(0) = 1;  doll(5, 3, 5, 0, 1, 0, 0) = 1;  dearest(0) = 0
            mend(0, 0, 0) = 1;  dearest(0) = 1;  dearest(1) = -1;  mend(1, 1, 0) = 2;  dearest(0) = -1;  dearest(1) = 1;  dearest(2) = -15;  dearest(-1) = -15
            status(15) = 2
            """);
        Run judge = Document.says("A told DAY by the first n twos (0 to 20) of the ROW in SHELF s: WRONG; NONE. -11; -12; -13; -14 n; -15 fewer elements; -16 n above 20 "
            + "(counted as -1 to -6).");
        judge.is(LEFT, 0).is(LEFT, 1).is(DOLL, 0).fill(0, 0, 0, 1, 0, 9).go("""
            judge(0, 0) = -1;  judge(0, 1) = -1;  judge(0, 2) = 1;  judge(0, 3) = -15;  judge(0, -1) = -14;  judge(8, -1) = -11;  judge(-1, 0) = -11;  show(1, 0) = 1
            judge(1, -1) = -12;  judge(2, -1) = -13;  row(3, 2, 42) = 1;  judge(3, 20) = 1;  judge(3, 21) = -16;  judge(3, 22) = -15;  status(11) = 2;  status(12) = 1
            status(13) = 1;  status(14) = 1;  status(15) = 2;  status(16) = 1;  armOf(0, 8) = 99
            """);
        Run behind = Document.says("BEHIND it: DOLLS with both (what 0), UNLIKE (1), HER (2). -1; -2; -3; -4; -5 also another what; -6 also if it is WRONG.");
        behind.is("arm(0, 0, 0, 5, 3, 5)", 0).is("arm(0, 0, 1, 5, 4, 5)", 1).is(DOLL, 0).is(DOLL, 1).fill(0, 0, 0, 1, 1, 1, 11).go("""
            behind(0, 0, 0) = 0;  behind(0, 0, 1) = 0;  behind(0, 0, 2) = 2;  behind(0, 1, 0) = 0;  behind(0, 1, 1) = 2;  behind(0, 1, 2) = 1;  behind(0, 2, 0) = 1
            behind(0, 2, 1) = 3;  behind(0, 2, 2) = 1;  behind(0, 3, 0) = -6;  behind(0, 3, 3) = -5;  behind(0, 4, 0) = -5;  behind(0, 0, -1) = -5
            behind(0, -1, 3) = -4;  behind(8, 0, 0) = -1;  show(1, 0) = 1;  behind(1, 0, 0) = -2;  behind(2, 0, 0) = -3;  row(3, 2, 42) = 1;  behind(3, 21, 0) = -6
            behind(3, 21, 3) = -5;  armOf(0, 8) = 99;  status(4) = 0;  mend(0, 0, 0) = 1;  behind(0, 0, 1) = 2;  behind(0, 1, 1) = -6
            """);
        Run done = Document.says("It comes to pass in truth, each two a MEND: MENDED. -1; -2; -3; -4; -5; -6 likewise.");
        done.is(LEFT, 0).is("arm(0, 0, 1, 5, 5, 5)", 1).is("doll(5, 5, 5, 0, 40, 0, 0)", 0).fill(0, 0, 0, 1, 1, 0, 0).go("""
            done(0, 0) = 0;  done(0, 3) = -6;  armOf(0, 8) = 99;  status(4) = 0;  done(0, 2) = 2;  status(5) = 80;  on(0, 0) = 0;  on(0, 1) = 1;  done(0, 2) = -6
            done(0, 4) = -5;  done(0, -1) = -4;  done(8, 0) = -1;  show(1, 0) = 1;  done(1, 0) = -2;  done(2, 0) = -3;  row(3, 2, 42) = 1;  done(3, 21) = -6
            done(0, 0) = 2;  status(5) = 80;  off(0) = 0;  done(0, 1) = 3;  status(5) = 120
            """);
    }

    private static void promises34To37() {
        Run mend = Document.says("A MEND in truth: SPENT. -1; -6 SIDE, it isn't in THE DRAWER, doesn't FIT, the SIDE isn't empty.");
        mend.is(LEFT, 0).is(LEFT, 1).is("arm(4, 0, 0, 7, 5, 5)", 2).is("doll(5, 5, 5, 0, 40, 0, 0)", 0).is("doll(5, 5, 5, 0, 3, 0, 0)", 1).go("""
            mend(0, 0, 0) = 40;  on(0, 0) = 0;  status(4) = 1;  mend(3, 0, 2) = -1;  mend(-1, 0, 0) = -1;  mend(1, 2, 0) = -1;  mend(1, -1, 0) = -1
            mend(1, 1, 2) = -6;  mend(1, 1, -1) = -6;  mend(0, 1, 0) = -6;  mend(2, 1, 0) = -6;  mend(1, 1, 1) = -6;  mend(1, 0, 0) = -6;  status(4) = 1
            mend(1, 1, 0) = 43;  on(1, 0) = 1;  status(4) = 2;  status(5) = 43
            """);
        Document.says("An ARM comes off: where it was (as told of ARMS). -1; -6 it is in THE DRAWER.").is("arm(4, 0, 0, 5, 5, 5)", 0).is(DOLL, 0).is(DOLL, 1).go("""
            off(0) = -6;  mend(0, 1, 1) = 1;  off(0) = 11;  on(1, 1) = -1;  armOf(0, 8) = 99;  off(0) = -6;  off(1) = -1;  off(-1) = -1;  mend(0, 0, 0) = 2;  off(0) = 0
            """);
        Document.says("DAYS by draws, n (1 to 60): MENDED. -5 no ARMS, no DOLLS; -6.").go("days(0) = -5").is(DOLL, 0).go("days(1) = -5").is("arm(4, 0, 0, 5, 5, 5)", 0).go("""
            days(0) = -6;  days(61) = -6;  days(-1) = -6;  status(6) = 0;  days(1) = 1;  on(0, 1) = 0;  status(6) = 1;  days(1) = 1;  armOf(0, 8) = 99
            days(1) = 2;  on(0, 0) = 0;  status(6) = 3
            """);
        Document.says("SEED becomes v: what it was (nothing is refused).", "seed(5) = 1;  status(7) = 5;  seed(-2147483648) = 5;  seed(2147483647) = -2147483648;  seed(0) = 2147483647")
            .each("status(#)", 0, 7, 11, 12, 13, 14, 15, 16, 17);
    }

    private static void promises38To39() {
        Document.says("A MOVE of an ARM with x. 0, and no TRACE then: no such ARM, move.", """
            arm(1, 4, 0, 5, 5, 5) = 0;  arm(1, 4, 0, 5, 5, 5) = 1;  act(0, 0, 3) = 7;  act(1, 0, 3) = 8;  act(1, 1, 3) = 16;  act(1, 2, 3) = 20;  trace(0) = 12
            act(2, 0, 3) = 0;  trace(0) = -1;  act(1, 0, 3) = 8;  act(-1, 0, 3) = 0;  trace(0) = -1;  act(1, 0, 3) = 8;  act(1, 3, 3) = 0;  trace(0) = -1
            act(1, 0, 3) = 8;  act(1, -1, 3) = 0;  trace(0) = -1;  status(11) = 0;  status(15) = 0;  status(16) = 0
            """);
        Document.says("THE TRACE's i-th body. NONE: none such.", """
            trace(0) = -1;  arm(2, 4, 0, 5, 5, 5) = 0;  act(0, 1, 3) = 18;  trace(0) = 30;  trace(1) = 11;  trace(2) = 10;  trace(3) = -1;  trace(-1) = -1
            trace(20) = -1;  status(15) = 0
            """);
    }

    private static void promises40To41() {
        // from SEED 9 the SIDES drawn are right (it comes off) and left (a MEND); from 1 right, right and left
        Run image = Document.says("THE IMAGE of all but SHELVES (and THE IMAGE, REFUSALS, the FAULT, THE TRACE) is taken: how many ARMS.");
        image.is("arm(4, 1, 0, 5, 2, 3)", 0).is("doll(5, 6, 7, 1, 8, 3, 40)", 0).go("""
            image() = 1;  mend(0, 0, 1) = 8;  seed(9) = 1;  tell(0, 0, 0) = 1;  tell(0, 1, 4) = 3;  tell(0, 2, 5) = 40;  tell(0, 3, 6) = 0;  days(2) = 2;  image() = 1
            off(0) = 0;  dye(0, 0, 9) = 2;  dye(0, 1, 9) = 3;  tell(0, 0, 2) = 0;  tell(0, 1, 0) = 4;  tell(0, 2, 0) = 5;  tell(0, 3, 0) = 8;  seed(1) = 886977611
            days(3) = 4;  arm(0, 0, 0, 5, 5, 5) = 1;  doll(5, 5, 5, 0, 1, 0, 0) = 1;  row(0, 1, 2) = 1;  show(1, 0) = 1;  act(0, 1, 2) = 4
            """);
        image.fault("arm 8", 4).is("row(8, 0, 0)", -1).go("""
            restore() = 1;  armOf(0, 8) = 0;  armOf(0, 4) = 2;  armOf(0, 5) = 3;  dollOf(0, 3) = 0;  dollOf(0, 5) = 4;  dollOf(0, 6) = 5;  dollOf(0, 7) = 8
            status(0) = 1;  status(1) = 1;  status(4) = 2;  status(5) = 16;  status(6) = 2;  status(7) = 886977611;  holds(0) = 101;  holds(1) = 0;  holds(7) = 100
            fault() = 4;  trace(0) = 11;  status(8) = 3;  status(11) = 1;  status(16) = 1
            """);
        Run restore = Document.says("All is as THE IMAGE has it; SHELVES with ARMS hold those of these numbers, or NOTHING: how many ARMS. -6 there is none.");
        restore.is("restore()", -6).is(LEFT, 0).is("restore()", -6).is("image()", 1).is(LEFT, 1).go("""
            show(0, 0) = 1;  show(1, 1) = 1;  row(2, 0, 1) = 1;  dye(0, 0, 1) = 5;  restore() = 1;  armOf(0, 4) = 5;  status(0) = 1;  holds(0) = 0;  holds(1) = -1
            holds(2) = 100;  says(0, 0) = 5;  says(1, 0) = -3;  dye(0, 0, 2) = 5;  restore() = 1;  armOf(0, 4) = 5
            """);
    }

    private static void promise42() {
        Run run = Document.says("How many: 0 ARMS, 1 DOLLS, 2 in THE DRAWER, 3 DOLLS with both, 4 MENDED, 5 SPENT, 6 TODAY, 7 SEED, 8 bodies that ran in the latest act() "
            + "(all, kept or not); 11 to 17: REFUSALS -1 to -7. NONE for another what.");
        run.is(LEFT, 0).is("arm(0, 0, 1, 5, 5, 5)", 1).is("arm(0, 0, 1, 1, 5, 5)", 2).is("doll(5, 5, 5, 0, 40, 0, 0)", 0).is("doll(5, 5, 5, 0, 40, 0, 0)", 1).go("""
            status(0) = 3;  status(1) = 2;  status(2) = 3;  status(3) = 0;  mend(0, 0, 0) = 40;  status(2) = 2;  status(3) = 0;  mend(1, 0, 1) = 80;  status(2) = 1
            status(3) = 1;  status(4) = 2;  status(5) = 80;  status(6) = 0;  status(7) = 1;  status(8) = 0;  act(0, 2, 1) = 3;  status(8) = 4;  seed(7) = 1;  status(7) = 7
            row(8, 0, 0) = -1;  status(11) = 1;  show(0, 0) = 1;  set(0, 0, 0) = -2;  status(12) = 1;  set(1, 0, 0) = -3;  status(13) = 1;  row(0, 0, -1) = -4
            status(14) = 1;  whole(2) = -5;  status(15) = 1;  off(2) = -6;  status(16) = 1;  row(0, 0, 161) = -7;  status(17) = 1;  judge(9, 0) = -11;  status(11) = 2
            """).each("status(#)", -1, -1, 9, 10, 18, 100, 2147483647, -2147483648);
    }
}
