/** The boundary cases of a SHOP that is read from a ROW, and of its FAULT: one test for each sentence, which is quoted. */
public final class BoundsOfTextsTest {
    private static final String ARM = "arm 0 0 0 5 5 5";
    private static final String RIGHT = "arm 0 0 1 5 5 5";
    private static final String DOLL = "doll 5 5 5 2 1 0 0";

    public static void main(String[] args) {
        itemAndItems();
        fullRow();
        emptyRow();
        wordsLetters();
        oneBlank();
        oneToTwoDigits();
        armsNumbers();
        dollsNumbers();
        onAnArmInTheDrawer();
        onADoll();
        onAnEmptySide();
        onOneThatFits();
        offAnArmThatIsOn();
        liesDays();
        allOrNothing();
        roomForArms();
        roomForDolls();
        roomWhenTheLettersStandWhole();
        firstPlace();
        tooEarly();
        placeOfTheFirstDigit();
        latestFault();
        readAsInts();
        Due.end("BoundsOfTextsTest");
    }

    private static void itemAndItems() {
        Run run = Run.of("ITEM, then any number of times ; and ITEM").shop(ARM, 1).shop(DOLL + ";" + RIGHT, 2);
        run.shop("on 0 0;on 1 0;off 0;lies 0 1;off 1", 5);
        run.fault(";" + ARM, 0).fault(ARM + ";", 16).fault(ARM + ";;" + ARM, 16).fault(ARM + ARM, 15).fault(ARM + "," + ARM, 15);
        run.is("status(0)", 2);
    }

    private static void fullRow() {
        StringBuilder text = new StringBuilder();
        for (int i = 0; i < 17; i++) {
            text.append(i == 0 ? "" : ";").append(i < 8 ? "lies 0 10" : "lies 0 7");
        }
        Run run = Run.of("a full row of 160 elements", "doll(5, 5, 5, 2, 1, 0, 0) = 0");
        Due.is("its length", text.length(), 160);
        run.shop(text.toString(), 17).is("dollOf(0, 7)", 7);
        // the last element: a digit, another letter, a blank, ;
        run.go("set(7, 159, 56) = 1 \n shop(7) = 17 \n dollOf(0, 7) = 8 \n set(7, 159, 120) = 1 \n shop(7) = -6 \n fault() = 159");
        run.go("set(7, 158, 48) = 1 \n set(7, 159, 48) = 1 \n shop(7) = -6 \n fault() = 159");
        run.go("set(7, 159, 32) = 1 \n shop(7) = -6 \n fault() = 160 \n dollOf(0, 7) = 8");
        Run other = Run.of("a full row that ends too early", "doll(5, 5, 5, 2, 1, 0, 0) = 0");
        StringBuilder ends = new StringBuilder();
        for (int i = 0; i < 17; i++) {
            ends.append(i < 7 ? "lies 0 10;" : "lies 0 7;");
        }
        Due.is("its length", ends.length(), 160);
        other.fault(ends.toString(), 160).is("dollOf(0, 7)", 0);
    }

    private static void emptyRow() {
        Run.of("(the number of elements, if it ends too early): none", "row(0, 0, 0) = 1 \n shop(0) = -6 \n fault() = 0")
            .go("row(0, 3, 0) = 1 \n shop(0) = -6 \n fault() = 0 \n status(16) = 2");
    }

    /** Each word: cut behind each of its letters, and with another letter in the place of each. */
    private static void wordsLetters() {
        String[] words = {"arm", "doll", "on", "off", "lies"};
        for (String word : words) {
            Run run = Run.of("the first place at which an element can't stand: " + word);
            for (int i = 0; i < word.length(); i++) {
                run.fault(word.substring(0, i), i);
                run.fault(word.substring(0, i) + "z" + word.substring(i + 1) + " 0", i);
                run.fault(word.substring(0, i) + " " + word.substring(i) + " 0", i);
            }
            run.fault(word, word.length()).fault(word + word.charAt(word.length() - 1) + " 0", word.length());
            run.fault(word.toUpperCase() + " 0", 0).fault(" " + word + " 0", 0).fault(ARM + ";" + word, 16 + word.length());
        }
    }

    private static void oneBlank() {
        Run run = Run.of("One blank between words and NUMBERS").shop(ARM + ";" + DOLL, 2);
        run.fault("lies0 5", 4).fault("lies  0 5", 5).fault("lies 0  5", 7).fault("lies\t0 5", 4).fault("lies 0\t5", 6);
        run.fault("lies 0 5 ", 8).fault("lies 0 5 ;off 0", 8).fault("lies 0 5; off 0", 9).fault("lies;0 5", 4).fault("lies 0;5", 6);
        run.shop("lies 0 5", 1);
    }

    private static void oneToTwoDigits() {
        Run run = Run.of("NUMBERS (1 to 2 digits)").shop(ARM + ";" + DOLL, 2);
        run.fault("lies 0 ", 7).shop("lies 0 0", 1).shop("lies 0 00", 1).shop("lies 0 99", 1).fault("lies 0 100", 9).fault("lies 0 000", 9);
        run.is("dollOf(0, 7)", 99);
        run.fault("lies  5", 5).shop("lies 00 5", 1).fault("lies 000 5", 7).fault("lies 0 -1", 7).fault("lies 0 +1", 7).fault("lies 0 1/", 8);
        // the signs ahead of 0 and behind 9 are no digits
        run.fault("lies 0 /", 7).fault("lies 0 :", 7).fault("lies 0 1:", 8).fault("lies / 1", 5).fault("lies : 1", 5);
        run.is("dollOf(0, 7)", 5);
    }

    private static void armsNumbers() {
        int[] most = {6, 9, 1, 9, 9, 9};
        for (int i = 0; i < most.length; i++) {
            String ahead = "arm 0 0 0 0 0 0".substring(0, 4 + 2 * i);
            String behind = "arm 0 0 0 0 0 0".substring(5 + 2 * i);
            Run run = Run.of("arm K A S Z H W (SIDE, SIZE, SHADE, WEAR)");
            run.shop(ahead + "0" + behind, 1).shop(ahead + most[i] + behind, 1).shop(ahead + "0" + most[i] + behind, 1);
            run.is("armOf(0, " + i + ")", 0).is("armOf(1, " + i + ")", most[i]).is("armOf(2, " + i + ")", most[i]).is("armOf(2, 8)", 99);
            run.fault(ahead + (most[i] + 1) + behind, ahead.length()).fault(ahead + "99" + behind, ahead.length());
            run.fault(ahead + "0" + (most[i] + 1) + behind, most[i] == 9 ? ahead.length() + 2 : ahead.length());
            run.is("status(0)", 3);
        }
    }

    private static void dollsNumbers() {
        int[] least = {0, 0, 0, 0, 1, 0, 0};
        int[] most = {9, 9, 9, 2, 99, 9, 40};
        for (int i = 0; i < most.length; i++) {
            String ahead = "doll 0 0 0 0 1 0 0".substring(0, 5 + 2 * i);
            String behind = "doll 0 0 0 0 1 0 0".substring(6 + 2 * i);
            Run run = Run.of("doll Z H W V M T B (SIZE, SHADE, WEAR, WISH, MINUTES, TEARS, BEARS)");
            run.shop(ahead + least[i] + behind, 1).shop(ahead + most[i] + behind, 1);
            run.is("dollOf(0, " + i + ")", least[i]).is("dollOf(1, " + i + ")", most[i]).is("dollOf(1, 7)", 0);
            if (most[i] < 99) {
                run.fault(ahead + (most[i] + 1) + behind, ahead.length());
            } else {
                run.fault(ahead + "100" + behind, ahead.length() + 2).fault(ahead + "0" + behind, ahead.length());
                run.fault(ahead + "00" + behind, ahead.length());
            }
            run.is("status(1)", 2);
        }
    }

    private static void onAnArmInTheDrawer() {
        Run run = Run.of("on X D (an ARM in THE DRAWER ..)").shop(ARM + ";" + DOLL + ";" + DOLL, 3);
        run.fault("on 1 0", 3).fault("on 99 0", 3).fault("on 01 0", 3);
        run.shop("on 0 0", 1).fault("on 0 1", 3).fault("on 0 0", 3).fault("on 0", 3).fault("on 0x", 3).fault("on 0 9", 3);
        run.shop("off 0;on 00 1", 2).is("on(1, 0)", 0);
        Run text = Run.of("as the text has it by then").shop(DOLL + ";" + DOLL, 2);
        text.fault("on 0 0;" + ARM, 3).fault(ARM + ";on 0 0;on 0 1", 26).shop(ARM + ";on 0 0;off 0;on 0 1", 4).is("armOf(0, 8)", 10);
    }

    private static void onADoll() {
        Run run = Run.of("comes on the DOLL").shop(ARM + ";" + DOLL, 2).fault("on 0 1", 5).fault("on 0 99", 5).fault("on 0 10", 5);
        run.fault("on 0 1;" + DOLL, 5).fault("on 0 1x", 5).is("on(0, 0)", -1).shop("on 0 00", 1).is("on(0, 0)", 0);
        Run five = Run.of("the last DOLL").shop(DOLL + ";" + DOLL + ";" + DOLL + ";" + DOLL + ";" + DOLL + ";" + RIGHT, 6);
        five.fault("on 0 5", 5).shop("on 0 4", 1).is("on(4, 1)", 0).is("armOf(0, 8)", 41);
    }

    private static void onAnEmptySide() {
        Run run = Run.of("on its own SIDE, which must be empty").shop(ARM + ";" + ARM + ";" + RIGHT + ";arm 4 0 1 5 5 5;" + DOLL, 5);
        run.shop("on 0 0", 1).fault("on 1 0", 5).shop("on 2 0", 1).fault("on 3 0", 5).fault("off 2;on 3 0;on 2 0", 18);
        run.shop("off 2;on 3 0", 2).is("on(0, 1)", 3).shop("off 0;on 1 0", 2).is("on(0, 0)", 1);
        // what is on another side by mend() leaves its own empty
        run.go("off(1) = 0 \n off(3) = 1 \n mend(3, 0, 0) = 1").fault("on 1 0", 5).shop("on 2 0", 1).is("on(0, 1)", 2);
    }

    private static void onOneThatFits() {
        int[] kinds = {0, 1, 2, 3, 4, 5, 6};
        for (int kind : kinds) {
            int reach = kind == 6 ? 2 : 1;
            for (int apart = -3; apart <= 3; apart++) {
                Run run = Run.of("and it must FIT: else D's place").shop("arm " + kind + " 9 1 " + (5 + apart) + " 5 5;" + DOLL, 2);
                if (Math.abs(apart) <= reach) {
                    run.shop("on 0 0", 1).is("on(0, 1)", 0);
                } else {
                    run.fault("on 0 0", 5).is("on(0, 1)", -1);
                }
            }
        }
        Run.of("telling is no MEND").shop(ARM + ";" + DOLL + ";on 0 0", 3).go("status(4) = 0 \n status(5) = 0 \n status(3) = 0");
    }

    private static void offAnArmThatIsOn() {
        Run run = Run.of("off X (an ARM that is ON a DOLL)").shop(ARM + ";" + DOLL, 2);
        run.fault("off 0", 4).fault("off 1", 4).fault("off 99", 4).shop("on 0 0;off 0", 2).fault("on 0 0;off 0;off 0", 17);
        run.shop("on 0 0", 1).fault("off 1", 4).fault("off 0 0", 5).shop("off 00", 1).is("armOf(0, 8)", 99);
    }

    private static void liesDays() {
        Run run = Run.of("lies D N (DAYS)").shop(DOLL, 1).fault("lies 1 5", 5).fault("lies 99 5", 5).fault("lies 1", 5);
        run.shop("lies 0 99", 1).is("dollOf(0, 7)", 99).shop("lies 0 0", 1).is("dollOf(0, 7)", 0).shop("lies 0 9;lies 0 8", 2);
        run.is("dollOf(0, 7)", 8).shop(DOLL + ";lies 1 3", 2).is("dollOf(1, 7)", 3).is("status(6)", 0);
    }

    private static void allOrNothing() {
        Run run = Run.of("All is told over what there is, or nothing").shop(ARM + ";" + DOLL + ";on 0 0;lies 0 5", 4);
        run.fault("off 0;lies 0 9;" + RIGHT + ";on 1 0;" + DOLL + ";of", 59);
        run.go("on(0, 0) = 0 \n on(0, 1) = -1 \n dollOf(0, 7) = 5 \n status(0) = 1 \n status(1) = 1");
        run.shop("off 0;lies 0 9;" + RIGHT + ";on 1 0;" + DOLL, 5);
        run.go("on(0, 0) = -1 \n on(0, 1) = 1 \n dollOf(0, 7) = 9 \n status(0) = 2 \n status(1) = 2");
        run.shop("lies 1 4", 1).go("dollOf(0, 7) = 9 \n dollOf(1, 7) = 4 \n on(0, 1) = 1");
    }

    private static void roomForArms() {
        Run run = Run.of("what there is no room for can't stand: its word (ARMS)");
        for (int i = 0; i < 7; i++) {
            run.is("arm(0, 0, 0, 5, 5, 5)", i);
        }
        run.fault(ARM + ";" + ARM, 16).is("status(0)", 7).fault(DOLL + ";" + ARM + ";" + ARM, 35).is("status(1)", 0);
        run.shop(DOLL + ";" + ARM, 2).is("status(0)", 8).fault(ARM, 0).fault(DOLL + ";" + ARM, 19).is("status(17)", 0);
        run.shop("on 7 0;off 7", 2);
    }

    private static void roomForDolls() {
        Run run = Run.of("what there is no room for can't stand: its word (DOLLS)");
        for (int d = 0; d < 4; d++) {
            run.is("doll(5, 5, 5, 2, 1, 0, 0)", d);
        }
        run.fault(DOLL + ";" + DOLL, 19).is("status(1)", 4).shop(DOLL, 1).is("status(1)", 5).fault(DOLL, 0).fault(ARM + ";" + DOLL, 16);
        run.is("status(0)", 0).shop(ARM + ";on 0 4;lies 4 1", 3).is("status(17)", 0);
    }

    private static void roomWhenTheLettersStandWhole() {
        Run run = Run.of("Whether there is room for a word is asked when its letters stand whole");
        for (int i = 0; i < 8; i++) {
            run.is("arm(0, 0, 0, 5, 5, 5)", i);
        }
        for (int d = 0; d < 5; d++) {
            run.is("doll(5, 5, 5, 2, 1, 0, 0)", d);
        }
        run.fault("a", 1).fault("ar", 2).fault("arm", 0).fault("ax", 1).fault("arx", 2).fault("armx", 0).fault("arm 7", 0).fault("arm 0 0", 0);
        run.fault("d", 1).fault("do", 2).fault("dol", 3).fault("doll", 0).fault("dx", 1).fault("dolx", 3).fault("dollx", 0).fault("doll 99", 0);
        run.fault("lies 0 0;ar", 11).fault("lies 0 0;arm", 9).fault("lies 0 0;dolk", 12).fault("lies 0 0;doll;", 9);
    }

    /** Every element of a text that may stand: were it another, its place is the FAULT, or that of its NUMBER's first digit. */
    private static void firstPlace() {
        String text = "arm 6 9 1 9 9 9;doll 9 9 9 2 40 9 40;on 0 0;off 0;lies 0 45";
        for (int i = 0; i < text.length(); i++) {
            Run.of("an element can't stand, place " + i).fault(text.substring(0, i) + "#" + text.substring(i + 1), i);
        }
        Run.of("as such texts go on").shop(text, 5);
    }

    private static void tooEarly() {
        String text = "arm 6 9 1 9 9 9;doll 9 9 9 2 40 9 40;on 0 0;off 0;lies 0 45";
        String whole = " 15 35 36 43 49 58 59 ";
        for (int n = 0; n < text.length(); n++) {
            Run run = Run.of("(the number of elements, if it ends too early), " + n);
            if (whole.contains(" " + n + " ")) {
                run.shop(text.substring(0, n), text.substring(0, n).split(";").length);
            } else {
                run.fault(text.substring(0, n), n);
            }
        }
    }

    private static void placeOfTheFirstDigit() {
        Run run = Run.of("of a NUMBER that may not be the place of its first digit").shop(ARM + ";" + DOLL, 2);
        run.fault("arm 7 0 0 0 0 0", 4).fault("arm 07 0 0 0 0 0", 4).fault("arm 10 0 0 0 0 0", 4).fault("arm 99", 4).fault("arm 123", 4);
        run.fault("arm 0 10 0 0 0 0", 6).fault("arm 0 0 2 0 0 0", 8).fault("arm 0 0 02 0 0 0", 8).fault("arm 0 0 0 0 0 10", 14);
        run.fault("doll 5 5 5 3 1 0 0", 11).fault("doll 5 5 5 0 0 0 0", 13).fault("doll 5 5 5 0 00 0 0", 13).fault("doll 5 5 5 0 1 0 41", 17);
        run.fault("on 12 0", 3).fault("on 0 12", 5).fault("off 12", 4).fault("lies 12 0", 5);
        run.shop("doll 5 5 5 0 1 0 40", 1).shop("doll 5 5 5 0 01 0 04", 1).is("dollOf(2, 6)", 4);
    }

    private static void latestFault() {
        Run run = Run.of("The FAULT of the latest shop() that came to a ROW; NONE: there was none, or none yet").is("fault()", -1);
        run.go("shop(0) = -3 \n fault() = -1 \n shop(8) = -1 \n fault() = -1").fault("arm 9", 4);
        run.go("shop(0) = -3 \n fault() = 4 \n shop(-1) = -1 \n fault() = 4 \n arm(0, 0, 0, 0, 0, 0) = 0 \n show(1, 0) = 1 \n shop(1) = -2 \n fault() = 4");
        run.shop(ARM, 1).go("shop(0) = -3 \n fault() = -1").fault("x", 0).go("image() = 2 \n restore() = 2 \n fault() = 0 \n fault() = 0");
    }

    private static void readAsInts() {
        String text = "lies 0 9";
        for (int sort = 0; sort <= 3; sort++) {
            Run run = Run.of("A SHOP by the ROW in SHELF s, of sort " + sort, "doll(5, 5, 5, 2, 1, 0, 0) = 0");
            run.is("row(0, " + sort + ", " + text.length() + ")", 1);
            for (int i = 0; i < text.length(); i++) {
                run.is("set(0, " + i + ", " + (int) text.charAt(i) + ")", 1);
            }
            run.go("shop(0) = 1 \n dollOf(0, 7) = 9");
            // the letter and 256, and 65536, and 2 to the 32nd: kept by shorts, by ints, and by longs that are read as ints
            long[] more = {256, 65536, 4294967296L};
            for (int i = 0; i < more.length; i++) {
                run.is("set(0, 0, " + (text.charAt(0) + more[i]) + ")", 1);
                boolean kept = i == 0 ? sort >= 1 : i == 1 && sort >= 2;
                run.is("shop(0)", kept ? -6 : 1).is("fault()", kept ? 0 : -1);
            }
            run.is("set(0, 0, -" + (int) text.charAt(0) + ")", 1).is("shop(0)", -6).is("fault()", 0);
        }
    }
}
