import java.util.Arrays;
import java.util.LinkedHashMap;
import java.util.Map;
import java.util.function.Supplier;

/**
 * REFUSALS: each that a promise names, by itself; which of two comes first where both are due; and that nothing
 * changes by a refused call but how many there were, the image neither. Each call is made on a shop of its own.
 */
public final class RefusalsTest {
    private static final Map<String, Map<String, Long>> IMAGES = new LinkedHashMap<>();

    public static void main(String[] args) {
        promise2Row();
        promise3Set();
        promise4CopyByItself();
        promise4CopyWhichFirst();
        promise6Show();
        promise8Says();
        promise9Arm();
        promise10Doll();
        promise11Dye();
        promise12Tell();
        promise13ArmOf();
        promise14DollOf();
        promise15On();
        promise16Shop();
        promise16ShopOfATextWithAFault();
        promise18Fits();
        promise19Unlike();
        promise20May();
        promise21Best();
        promise22Whole();
        promise23Given();
        promise25Tea();
        promise26Comes();
        promise27Queue();
        promise28Feast();
        promise29Looks();
        promise30Dearest();
        promise31Judge();
        promise32Behind();
        promise33Done();
        promise34Mend();
        promise35Off();
        promise36Days();
        promise41Restore();
        whereNothingIsRefused();
        eachIsCountedAsOftenAsItIsAnswered();
        Due.end("RefusalsTest");
    }

    /**
     * Arms: 0 on doll 0 left, 1 (doubled) on her right, 2 (glued, left, size 7), 3 (right), 4 (stained, left) in the
     * drawer; dolls 0 and 1 of size 5, 2 of size 9. Shelves: 0 NOTHING; 1 arm 4; 2 and 3 bytes (3 and 2 elements);
     * 4 shorts (3); 5 ints (42): a told day whose third two is wrong; 6 ints (none); 7 a text with a fault.
     */
    private static Run shop() {
        Run run = Run.of("the shop", """
            arm(0, 0, 0, 5, 3, 2) = 0
            arm(4, 1, 0, 5, 4, 1) = 1
            arm(6, 2, 0, 7, 5, 0) = 2
            doll(5, 5, 2, 0, 30, 4, 12) = 0
            doll(5, 3, 1, 1, 10, 9, 3) = 1
            mend(0, 0, 0) = 30
            image() = 3
            arm(0, 0, 1, 5, 6, 9) = 3
            arm(1, 3, 0, 5, 7, 8) = 4
            doll(9, 8, 8, 2, 45, 1, 40) = 2
            mend(1, 0, 1) = 60
            seed(3) = 1
            days(1) = 2
            tell(1, 3, 7) = 1
            show(1, 4) = 1
            row(2, 0, 3) = 1
            set(2, 0, 11) = 1
            set(2, 2, 13) = 1
            row(3, 0, 2) = 1
            set(3, 1, 22) = 1
            row(4, 1, 3) = 1
            set(4, 1, 31) = 1
            row(5, 2, 42) = 1
            set(5, 0, 3) = 1
            set(5, 1, 11) = 1
            set(5, 2, 4) = 1
            set(5, 3, 10) = 1
            row(6, 2, 0) = 1
            armOf(0, 8) = 0
            armOf(1, 8) = 1
            status(2) = 3
            """);
        run.fault("arm 7", 4);
        run.ask("act(2, 2, 5)");
        return run;
    }

    /** 8 arms (0 to 3 left, 4 to 7 right, size 5) and 5 dolls; arm 0 on doll 4. */
    private static Run full() {
        Run run = Run.of("the full shop");
        for (int i = 0; i < 8; i++) {
            run.is("arm(0, 0, " + i / 4 + ", 5, " + i + ", 1)", i);
        }
        for (int d = 0; d < 5; d++) {
            run.is("doll(5, " + d + ", 1, 0, 7, 2, 9)", d);
        }
        return run.go("mend(0, 4, 0) = 7 \n image() = 8 \n off(0) = 40 \n show(3, 7) = 1");
    }

    private static Run bare() {
        return Run.of("the bare shop");
    }

    private static Run armsAlone() {
        return Run.of("no dolls", "arm(0, 0, 0, 0, 0, 0) = 0 \n image() = 1");
    }

    private static Run dollsAlone() {
        return Run.of("no arms", "doll(0, 0, 0, 0, 1, 0, 0) = 0 \n image() = 0");
    }

    private static void refused(String lines) {
        refusedIn("shop", RefusalsTest::shop, lines);
    }

    private static void refusedIn(String name, Supplier<Run> of, String lines) {
        for (String line : lines.split("\n")) {
            String text = line.replaceAll("//.*", "").trim();
            if (!text.isEmpty()) {
                int at = text.lastIndexOf('=');
                refusedOne(name, of, text.substring(0, at).trim(), Integer.parseInt(text.substring(at + 1).trim()));
            }
        }
    }

    private static void refusedOne(String name, Supplier<Run> of, String call, int due) {
        Run run = of.get();
        Map<String, Long> before = run.told();
        long[] counts = run.refusals();
        run.is(call, due);
        isSame("after " + call + " in the " + name, run.told(), before);
        counts[(due <= -10 ? -due - 10 : -due) - 1]++;
        Due.holds("refusals after " + call + ": " + Arrays.toString(counts), Arrays.equals(run.refusals(), counts));
        Run other = of.get();
        other.ask(call);
        isSame("image after " + call + " in the " + name, imageOf(other), IMAGES.computeIfAbsent(name, n -> imageOf(of.get())));
    }

    private static Map<String, Long> imageOf(Run run) {
        long arms = run.ask("restore()");
        Map<String, Long> told = run.told();
        told.put("restore()", arms);
        return told;
    }

    private static void isSame(String what, Map<String, Long> got, Map<String, Long> due) {
        for (String call : due.keySet()) {
            Due.is(what + ", " + call, got.getOrDefault(call, Long.MIN_VALUE), due.get(call));
        }
        Due.is(what + ", how much is told", got.size(), due.size());
    }

    private static void promise2Row() {
        refused("""
            row(-1, 0, 1) = -1
            row(8, 0, 1) = -1
            row(2147483647, 0, 1) = -1
            row(-2147483648, 0, 1) = -1
            row(0, 0, -1) = -4
            row(1, 0, -1) = -4
            row(2, 0, -1) = -4
            row(2, 0, -2147483648) = -4
            row(2, -1, 1) = -6
            row(2, 4, 1) = -6
            row(1, 4, 0) = -6
            row(2, 0, 161) = -7
            row(0, 3, 161) = -7
            row(1, 3, 161) = -7
            row(2, 0, 2147483647) = -7
            // which first
            row(8, 0, -1) = -1
            row(8, 4, 1) = -1
            row(-1, 0, 161) = -1
            row(2, 4, -1) = -4
            row(2, 4, 161) = -6
            row(2, -1, 161) = -6
            """);
    }

    private static void promise3Set() {
        refused("""
            set(-1, 0, 1) = -1
            set(8, 0, 1) = -1
            set(1, 0, 1) = -2
            set(0, 0, 1) = -3
            set(2, -1, 1) = -5
            set(2, 3, 1) = -5
            set(6, 0, 1) = -5
            set(5, 42, 1) = -5
            set(2, 2147483647, 1) = -5
            set(2, -2147483648, 1) = -5
            // which first
            set(8, -1, 1) = -1
            set(1, -1, 1) = -2
            set(1, 160, 1) = -2
            set(0, -1, 1) = -3
            set(0, 160, 1) = -3
            """);
    }

    private static void promise4CopyByItself() {
        refused("""
            copy(-1, 2, 0, 0, 1) = -1
            copy(8, 2, 0, 0, 1) = -1
            copy(2, -1, 0, 0, 1) = -1
            copy(2, 8, 0, 0, 1) = -1
            copy(1, 2, 0, 0, 1) = -2
            copy(2, 1, 0, 0, 1) = -2
            copy(1, 1, 0, 0, 1) = -2
            copy(2, 4, 0, 0, 1) = -2      // two SORTS
            copy(4, 2, 0, 0, 0) = -2
            copy(0, 2, 0, 0, 1) = -3
            copy(2, 0, 0, 0, 1) = -3
            copy(0, 0, 0, 0, 0) = -3
            copy(2, 3, 0, 0, -1) = -4
            copy(2, 3, 0, 0, -2147483648) = -4
            copy(2, 3, -1, 0, 1) = -5
            copy(2, 3, 0, -1, 1) = -5
            copy(2, 3, -1, 0, 0) = -5
            copy(2, 3, 0, -1, 0) = -5
            copy(2, 2, 2, 0, 2) = -5      // the end that isn't there is p's
            copy(2, 3, 0, 1, 2) = -5      // q's
            copy(2, 3, 4, 0, 0) = -5      // no element, but an end that isn't there
            copy(2, 3, 0, 3, 0) = -5
            copy(6, 6, 0, 0, 1) = -5
            copy(2, 3, 2147483647, 0, 1) = -5
            copy(2, 3, 2147483647, 0, 2147483647) = -5
            copy(2, 3, 0, 2147483647, 2147483647) = -5
            copy(2, 3, 1, 1, 2147483647) = -5
            copy(2, 3, -2147483648, 0, 2147483647) = -5
            """);
    }

    private static void promise4CopyWhichFirst() {
        refused("""
            copy(8, 1, 0, 0, 1) = -1
            copy(1, 8, 0, 0, 1) = -1
            copy(8, 0, 0, 0, 1) = -1
            copy(0, 8, 0, 0, 1) = -1
            copy(8, 2, 0, 0, -1) = -1
            copy(8, 2, -1, 0, 1) = -1
            copy(1, 0, 0, 0, 1) = -2
            copy(0, 1, 0, 0, 1) = -2
            copy(1, 2, 0, 0, -1) = -2
            copy(2, 1, -1, 0, 1) = -2
            copy(2, 4, 0, 0, -1) = -2
            copy(2, 4, 3, 0, 1) = -2
            copy(0, 2, 0, 0, -1) = -3
            copy(2, 0, 0, 0, -1) = -3
            copy(0, 2, -1, 0, 1) = -3
            copy(2, 0, 3, 0, 1) = -3
            copy(2, 3, -1, 0, -1) = -4
            copy(2, 3, 0, 3, -1) = -4
            """);
    }

    private static void promise6Show() {
        refused("""
            show(-1, 0) = -1
            show(8, 0) = -1
            show(8, -1) = -1
            show(-1, -1) = -1
            show(2, -2) = -1
            show(1, 5) = -1
            show(0, 2147483647) = -1
            show(0, -2147483648) = -1
            show(8, 5) = -1
            """);
    }

    private static void promise8Says() {
        refused("""
            says(-1, 0) = -1
            says(8, 0) = -1
            says(1, -1) = -1
            says(1, 7) = -1
            says(2, 0) = -2
            says(6, 6) = -2
            says(1, 2) = -2              // another KIND: stained is no cast,
            says(1, 3) = -2              // nor one under it
            says(0, 0) = -3
            // which first
            says(8, 7) = -1
            says(2, 7) = -1
            says(2, -1) = -1
            says(0, 7) = -1
            """);
    }

    private static void promise9Arm() {
        refused("""
            arm(-1, 0, 0, 0, 0, 0) = -1
            arm(7, 0, 0, 0, 0, 0) = -1
            arm(0, -1, 0, 0, 0, 0) = -6
            arm(0, 10, 0, 0, 0, 0) = -6
            arm(0, 0, -1, 0, 0, 0) = -6
            arm(0, 0, 2, 0, 0, 0) = -6
            arm(0, 0, 0, -1, 0, 0) = -6
            arm(0, 0, 0, 10, 0, 0) = -6
            arm(0, 0, 0, 0, -1, 0) = -6
            arm(0, 0, 0, 0, 10, 0) = -6
            arm(0, 0, 0, 0, 0, -1) = -6
            arm(0, 0, 0, 0, 0, 10) = -6
            arm(4, 0, 2, 0, 0, 0) = -6
            arm(7, 10, 0, 0, 0, 0) = -1
            arm(-1, 0, 2, 10, 10, 10) = -1
            """);
        refusedIn("full shop", RefusalsTest::full, """
            arm(0, 0, 0, 0, 0, 0) = -7
            arm(6, 9, 1, 9, 9, 9) = -7
            arm(7, 0, 0, 0, 0, 0) = -1
            arm(0, 10, 0, 0, 0, 0) = -6
            arm(0, 0, 0, 0, 0, -1) = -6
            """);
    }

    private static void promise10Doll() {
        refused("""
            doll(-1, 0, 0, 0, 1, 0, 0) = -6
            doll(10, 0, 0, 0, 1, 0, 0) = -6
            doll(0, -1, 0, 0, 1, 0, 0) = -6
            doll(0, 10, 0, 0, 1, 0, 0) = -6
            doll(0, 0, -1, 0, 1, 0, 0) = -6
            doll(0, 0, 10, 0, 1, 0, 0) = -6
            doll(0, 0, 0, -1, 1, 0, 0) = -6
            doll(0, 0, 0, 3, 1, 0, 0) = -6
            doll(0, 0, 0, 0, 0, 0, 0) = -6
            doll(0, 0, 0, 0, 100, 0, 0) = -6
            doll(0, 0, 0, 0, 1, -1, 0) = -6
            doll(0, 0, 0, 0, 1, 10, 0) = -6
            doll(0, 0, 0, 0, 1, 0, -1) = -6
            doll(0, 0, 0, 0, 1, 0, 41) = -6
            """);
        refusedIn("full shop", RefusalsTest::full, """
            doll(0, 0, 0, 0, 1, 0, 0) = -7
            doll(9, 9, 9, 2, 99, 9, 40) = -7
            doll(0, 0, 0, 0, 0, 0, 0) = -6
            doll(10, 0, 0, 0, 1, 0, 0) = -6
            """);
    }

    private static void promise11Dye() {
        refused("""
            dye(-1, 0, 0) = -1
            dye(5, 0, 0) = -1
            dye(0, -1, 0) = -6
            dye(0, 2, 0) = -6
            dye(0, 0, -1) = -6
            dye(0, 0, 10) = -6
            dye(0, 1, -1) = -6
            dye(0, 1, 10) = -6
            dye(5, 2, 0) = -1
            dye(5, 0, 10) = -1
            """);
    }

    private static void promise12Tell() {
        refused("""
            tell(-1, 0, 0) = -1
            tell(3, 0, 0) = -1
            tell(0, -1, 0) = -6
            tell(0, 4, 0) = -6
            tell(0, 0, -1) = -6
            tell(0, 0, 3) = -6
            tell(0, 1, -1) = -6
            tell(0, 1, 10) = -6
            tell(0, 2, -1) = -6
            tell(0, 2, 41) = -6
            tell(0, 3, -1) = -6
            tell(0, 3, 100) = -6
            tell(0, 4, -1) = -6
            tell(3, 4, 0) = -1
            tell(3, 0, 3) = -1
            """);
    }

    private static void promise13ArmOf() {
        refused("armOf(-1, 0) = -5 \n armOf(5, 0) = -5 \n armOf(0, -1) = -5 \n armOf(0, 9) = -5 \n armOf(5, 9) = -5");
    }

    private static void promise14DollOf() {
        refused("dollOf(-1, 0) = -5 \n dollOf(3, 0) = -5 \n dollOf(0, -1) = -5 \n dollOf(0, 9) = -5 \n dollOf(3, 8) = -5");
    }

    private static void promise15On() {
        refused("on(-1, 0) = -11 \n on(3, 0) = -11 \n on(0, -1) = -16 \n on(0, 2) = -16 \n on(3, 2) = -11");
    }

    private static void promise16Shop() {
        refused("shop(-1) = -1 \n shop(8) = -1 \n shop(1) = -2 \n shop(0) = -3 \n shop(7) = -6");
    }

    /** The FAULT is told anew then; all else stays. */
    private static void promise16ShopOfATextWithAFault() {
        Run run = shop();
        run.write(7, "off 0;on 0 1;lies 0 5;doll 1 1 1 1 1 1 1;arm 0 0 0 0 0 0;dye");
        Map<String, Long> before = run.told();
        run.is("shop(7)", -6);
        run.is("fault()", 58);
        Map<String, Long> after = run.told();
        Due.is("the fault ahead of it", before.put("fault()", 58L), 4);
        isSame("a shop with a fault at its end", after, before);
        run = shop();
        run.go("shop(6) = -6 \n fault() = 0 \n fault() = 0 \n shop(8) = -1 \n shop(1) = -2 \n shop(0) = -3 \n fault() = 0");
    }

    private static void promise18Fits() {
        refused("""
            fits(-1, 0, 0) = -1
            fits(5, 0, 0) = -1
            fits(0, -1, 0) = -1
            fits(0, 3, 0) = -1
            fits(0, 0, -1) = -6
            fits(0, 0, 2) = -6
            fits(5, 0, 2) = -1
            fits(0, 3, 2) = -1
            fits(1, 0, 2) = -6           // doubled: of either side, but there are two
            """);
    }

    private static void promise19Unlike() {
        refused("unlike(-1, 0) = -1 \n unlike(5, 0) = -1 \n unlike(0, -1) = -1 \n unlike(0, 3) = -1");
    }

    private static void promise20May() {
        refused("may(-1, 0) = -1 \n may(3, 0) = -1 \n may(0, -1) = -6 \n may(0, 2) = -6 \n may(3, 2) = -1");
    }

    private static void promise21Best() {
        refused("best(-1, 0) = -11 \n best(3, 0) = -11 \n best(0, -1) = -16 \n best(0, 2) = -16 \n best(3, 2) = -11");
    }

    private static void promise22Whole() {
        refused("whole(-1) = -5 \n whole(2) = -5");
    }

    private static void promise23Given() {
        refused("given(-1) = -15 \n given(6) = -15 \n given(2147483647) = -15 \n given(-2147483648) = -15");
        refusedIn("full shop", RefusalsTest::full, "given(10) = -15");
        refusedIn("no dolls", RefusalsTest::armsAlone, "given(0) = -15");
    }

    private static void promise25Tea() {
        refused("tea(-1, 0) = -1 \n tea(5, 0) = -1 \n tea(0, -1) = -1 \n tea(0, 3) = -1");
    }

    private static void promise26Comes() {
        refused("""
            comes(-1, 0) = -1
            comes(3, 0) = -1
            comes(0, -1) = -6
            comes(0, 100) = -6
            comes(0, 2147483647) = -6
            comes(3, 100) = -1
            """);
    }

    private static void promise27Queue() {
        refused("queue(-2) = -5 \n queue(3) = -5 \n queue(2147483647) = -5 \n queue(-2147483648) = -5");
        refusedIn("full shop", RefusalsTest::full, "queue(5) = -5");
        refusedIn("no dolls", RefusalsTest::armsAlone, "queue(0) = -5");
    }

    private static void promise28Feast() {
        refused("""
            feast(0, -1) = -5
            feast(0, 2) = -5
            feast(-1, 0) = -6
            feast(401, 0) = -6
            feast(401, 1) = -6
            feast(401, 2) = -5
            feast(-1, -1) = -5
            """);
    }

    private static void promise29Looks() {
        refused("""
            looks(-1, 0, 0) = -1
            looks(8, 0, 0) = -1
            looks(2, -1, 0) = -1
            looks(2, 5, 0) = -1
            looks(1, 0, 0) = -2
            looks(0, 0, 0) = -3
            looks(3, 0, 0) = -5
            looks(6, 0, 1) = -5
            looks(2, 0, -1) = -5
            looks(2, 0, 2) = -5
            // which first
            looks(1, 5, 0) = -1
            looks(0, 5, 0) = -1
            looks(3, 5, 0) = -1
            looks(8, 0, 2) = -1
            looks(1, 0, 2) = -2
            looks(0, 0, 2) = -3
            """);
    }

    private static void promise30Dearest() {
        refused("dearest(-1) = -15 \n dearest(2) = -15");
    }

    private static void promise31Judge() {
        refused("""
            judge(-1, 0) = -11
            judge(8, 0) = -11
            judge(1, 0) = -12
            judge(0, 0) = -13
            judge(5, -1) = -14
            judge(6, 1) = -15
            judge(2, 2) = -15
            judge(3, 2) = -15
            judge(5, 22) = -15
            judge(5, 1073741824) = -15     // twice this wraps to less than nothing,
            judge(5, -2147483648) = -14
            judge(5, 2147483647) = -15
            judge(5, 21) = -16
            // which first
            judge(8, -1) = -11
            judge(8, 21) = -11
            judge(1, -1) = -12
            judge(1, 21) = -12
            judge(0, -1) = -13
            judge(0, 21) = -13
            judge(2, 21) = -15
            """);
    }

    private static void promise32Behind() {
        refused("""
            behind(-1, 0, 0) = -1
            behind(8, 0, 0) = -1
            behind(1, 0, 0) = -2
            behind(0, 0, 0) = -3
            behind(5, -1, 0) = -4
            behind(2, 2, 0) = -5
            behind(5, 2, -1) = -5
            behind(5, 2, 3) = -5
            behind(5, 21, 0) = -6
            behind(5, 3, 0) = -6
            behind(5, 3, 2) = -6
            // which first
            behind(8, -1, 3) = -1
            behind(8, 21, 0) = -1
            behind(1, -1, 0) = -2
            behind(1, 0, 3) = -2
            behind(0, -1, 0) = -3
            behind(0, 0, 3) = -3
            behind(5, -1, 3) = -4
            behind(2, 21, 0) = -5
            behind(5, 21, 3) = -5
            behind(5, 3, 3) = -5
            """);
    }

    private static void promise33Done() {
        refused("""
            done(-1, 0) = -1
            done(8, 0) = -1
            done(1, 0) = -2
            done(0, 0) = -3
            done(5, -1) = -4
            done(2, 2) = -5
            done(5, 22) = -5
            done(5, 21) = -6
            done(5, 3) = -6               // the twos ahead of the wrong one don't come to pass either
            done(5, 20) = -6
            // which first
            done(8, -1) = -1
            done(1, -1) = -2
            done(0, -1) = -3
            done(0, 21) = -3
            done(2, 21) = -5
            """);
    }

    private static void promise34Mend() {
        refused("""
            mend(-1, 1, 0) = -1
            mend(5, 1, 0) = -1
            mend(4, -1, 0) = -1
            mend(4, 3, 0) = -1
            mend(4, 1, -1) = -6
            mend(4, 1, 2) = -6
            mend(0, 1, 0) = -6            // it isn't in THE DRAWER
            mend(0, 0, 0) = -6            // nor is it where it is on already
            mend(3, 1, 0) = -6            // of the other SIDE
            mend(4, 2, 0) = -6            // of another SIZE
            mend(4, 0, 0) = -6            // the SIDE isn't empty
            mend(5, 1, 2) = -1
            mend(4, 3, 2) = -1
            mend(5, 0, 0) = -1
            """);
    }

    private static void promise35Off() {
        refused("off(-1) = -1 \n off(5) = -1 \n off(2) = -6 \n off(4) = -6");
    }

    private static void promise36Days() {
        refused("days(0) = -6 \n days(61) = -6 \n days(-1) = -6 \n days(2147483647) = -6 \n days(-2147483648) = -6");
        refusedIn("no dolls", RefusalsTest::armsAlone, "days(1) = -5 \n days(60) = -5 \n days(0) = -5 \n days(61) = -5");
        refusedIn("no arms", RefusalsTest::dollsAlone, "days(1) = -5 \n days(0) = -5 \n days(61) = -5");
        refusedIn("bare shop", RefusalsTest::bare, "days(1) = -5 \n days(61) = -5");
    }

    private static void promise41Restore() {
        refusedIn("bare shop", RefusalsTest::bare, "restore() = -6");
    }

    /** element, holds, fault, seed, act, trace, image and status refuse nothing, whatever they are asked. */
    private static void whereNothingIsRefused() {
        Run run = shop();
        long[] before = run.refusals();
        long[] strange = {-2147483648, -1, 8, 9, 160, 2147483647};
        for (long v : strange) {
            run.each("element(" + v + ", #)", 0, strange);
            run.is("element(0, " + v + ")", 0);
            run.is("element(1, " + v + ")", 0);
            run.is("element(2, " + v + ")", 0);
            run.is("holds(" + v + ")", -1);
            run.is("act(" + v + ", 0, 1)", 0);
            run.is("act(0, " + v + ", 1)", 0);
            run.is("trace(" + v + ")", -1);
            run.is("seed(" + v + ")", run.ask("status(7)"));
        }
        run.each("status(#)", -1, -2147483648, -1, 9, 10, 18, 2147483647, -2147483638);
        run.is("image()", 5);
        Due.holds("nothing was refused", Arrays.equals(run.refusals(), before));
    }

    private static void eachIsCountedAsOftenAsItIsAnswered() {
        Run run = Run.of("how many there were");
        for (int i = 0; i < 60; i++) {
            run.go("row(8, 0, 0) = -1 \n row(0, 0, -1) = -4 \n row(0, 4, 0) = -6 \n row(0, 0, 161) = -7 \n armOf(0, 0) = -5");
            run.go("shop(0) = -3 \n on(0, 0) = -11");
        }
        run.go("row(0, 0, 0) = 1 \n says(0, 0) = -2 \n judge(0, 1) = -15");
        run.go("status(11) = 120 \n status(12) = 1 \n status(13) = 60 \n status(14) = 60 \n status(15) = 61");
        run.go("status(16) = 60 \n status(17) = 60");
    }
}
