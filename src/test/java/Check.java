/** What the tests share: counting wrong answers, and texts laid on a SHEET. */
final class Check {
    /** The TABLE of most tests: 6 GUESTS, 5 DISHES, SALT on SEAT 0, PEPPER on SEAT 3. */
    static final String SIX = "t2,g31,a40,c92,g10,a03,g52/03;14;27;43;52;03";

    private static int wrong = 0;

    private Check() { }

    static void due(String call, long got, long want) {
        if (got != want) {
            wrong++;
            System.out.println(call + " answered " + got + ", due is " + want);
        }
    }

    static void isSo(String what, boolean so) {
        if (!so) {
            wrong++;
            System.out.println("not so: " + what);
        }
    }

    /** Puts codes on a SHEET of a LANE, with `ahead` cells ahead of them. */
    static void write(SaltBorder x, int sheet, int lane, int ahead, String text) {
        due("sheet", x.sheet(sheet, lane, ahead + text.length()), 1);
        for (int i = 0; i < text.length(); i++) {
            due("put", x.put(sheet, ahead + i, text.charAt(i)), 1);
        }
    }

    static int lay(SaltBorder x, String text) {
        write(x, 0, 0, 0, text);
        return x.table(0, 0, 0, text.length());
    }

    static SaltBorder laid(String text) {
        SaltBorder x = new SaltBorder();
        isSo("the table is laid: " + text, lay(x, text) >= 3);
        return x;
    }

    /** Puts REQUESTS, told as digits, on SHEET 1 as ints. */
    static void requests(SaltBorder x, String digits) {
        due("sheet", x.sheet(1, 2, digits.length()), 1);
        for (int i = 0; i < digits.length(); i++) {
            due("put", x.put(1, i, digits.charAt(i) - '0'), 1);
        }
    }

    static void finish() {
        if (wrong != 0) {
            System.out.println(wrong + " wrong");
            System.exit(1);
        }
        System.out.println("ok");
    }
}
