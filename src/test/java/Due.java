/** What the tests share: answers that are due, rows made of texts, and the end of a test. */
final class Due {
    private static int asked = 0;
    private static int wrong = 0;

    private Due() {
    }

    static void is(String call, long got, long want) {
        asked++;
        if (got != want) {
            wrong++;
            if (wrong <= 40) {
                System.out.println(call + " answered " + got + ", due is " + want);
            }
        }
    }

    static void holds(String what, boolean so) {
        is(what, so ? 1 : 0, 1);
    }

    static int wrongs() {
        return wrong;
    }

    /** Puts a text into a new row of bytes in a shelf. */
    static void write(DrawerOfArms x, int s, String text) {
        is("row for " + text, x.row(s, 0, text.length()), 1);
        for (int i = 0; i < text.length(); i++) {
            is("letter of " + text, x.set(s, i, text.charAt(i)), 1);
        }
    }

    /** Puts numbers into a new row of ints in a shelf. */
    static void fill(DrawerOfArms x, int s, int... values) {
        is("row of numbers", x.row(s, 2, values.length), 1);
        for (int i = 0; i < values.length; i++) {
            is("number", x.set(s, i, values[i]), 1);
        }
    }

    /** Reads a shop from a text: what shop() and then fault() answer. */
    static void shop(DrawerOfArms x, String text, int items, int fault) {
        write(x, 7, text);
        is("shop of \"" + text + "\"", x.shop(7), items);
        is("fault of \"" + text + "\"", x.fault(), fault);
    }

    static void end(String test) {
        System.out.println(test + ": " + asked + " answers asked, " + wrong + " not as due");
        if (wrong != 0) {
            System.exit(1);
        }
    }
}
