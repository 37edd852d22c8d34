/** Part 1 and promise 2, edge by edge: which codes a TEXT goes on with, and its FIRST FAULT. */
final class TextEdgeTest {
    private static final int FEWEST = 3, MOST = 8, MOST_DISHES = 6;

    public static void main(String[] args) {
        everyCodeAtEveryPlace();
        guestsAndDishes();
        endsTooSoon();
        tooFewGuests();
        ninthGuest();
        seventhDish();
        noDish();
        seatsThatThereAre();
        emptyText();
        byteCodesAreCut();
        whereTheTextStands();
        makesAllAnew();
        firstFaultChangesNothing();
        Check.finish();
    }

    private static String text(int guests, int dishes) {
        StringBuilder text = new StringBuilder("t2");
        for (int g = 0; g < guests; g++) {
            text.append(',').append("gac".charAt(g % 3)).append(9 - g).append(g % 4);
        }
        text.append('/').append(guests - 1).append(0);
        for (int d = 0; d < dishes; d++) {
            text.append(';').append(guests - 1 - d % guests).append(d + 4);
        }
        return text.toString();
    }

    /** The codes with which some TEXT goes on, that begins like this one up to the place. */
    private static String goesOn(String text, int place) {
        int slash = text.indexOf('/');
        int guests = (slash - 2) / 4;
        if (place < 2) {
            return place == 0 ? "t" : "0123";
        }
        if (place <= slash) {
            int told = (place - 2) / 4;
            String ends = (told < MOST ? "," : "") + (told >= FEWEST ? "/" : "");
            return new String[] {ends, "gac", "0123456789", "0123"}[(place - 2) % 4];
        }
        String seats = "01234567".substring(0, guests);
        if (place <= slash + 2) {
            String salt = text.substring(slash + 1, slash + 2);
            return place == slash + 1 ? seats : seats.replace(salt, "");
        }
        int at = place - slash - 3;
        return new String[] {at / 3 < MOST_DISHES ? ";" : "", seats, "0123456789"}[at % 3];
    }

    /** "the place (from 0 on) of the first code with which no TEXT goes on". */
    private static void everyCodeAtEveryPlace() {
        for (int guests = FEWEST; guests <= MOST; guests++) {
            for (int dishes = 1; dishes <= MOST_DISHES; dishes += MOST_DISHES - 1) {
                String text = text(guests, dishes) + "!";
                for (int place = 0; place < text.length(); place++) {
                    everyCode(text, place);
                }
            }
        }
    }

    private static void everyCode(String text, int place) {
        String codes = goesOn(text, place);
        SaltBorder x = new SaltBorder();
        Check.write(x, 0, 2, 0, text);
        for (int code = -1; code <= 128; code++) {
            x.put(0, place, code);
            int got = x.table(0, 2, 0, place + 1);
            boolean isFault = codes.indexOf(code) < 0;
            Check.isSo(text + " with " + code + " at " + place + ": " + got,
                    isFault ? got == -100 - place : got == -100 - (place + 1) || got >= FEWEST);
        }
    }

    /** "3 to 8 GUESTS", "1 to 6 DISHES": each number of them. */
    private static void guestsAndDishes() {
        for (int guests = FEWEST; guests <= MOST; guests++) {
            for (int dishes = 1; dishes <= MOST_DISHES; dishes++) {
                SaltBorder x = new SaltBorder();
                Check.due("guests", Check.lay(x, text(guests, dishes)), guests);
                Check.due("guests", x.many(0), guests);
                Check.due("dishes", x.many(1), dishes);
                Check.due("soup", x.many(2), 2);
                Check.due("salt", x.many(3), guests - 1);
                Check.due("pepper", x.many(4), 0);
                Check.due("its fault", x.fault(), 0);
                told(x, guests, dishes);
            }
        }
    }

    private static void told(SaltBorder x, int guests, int dishes) {
        for (int g = 0; g < guests; g++) {
            Check.due("kind of " + g, x.ofGuest(g, 0), g % 3);
            Check.due("mouth of " + g, x.ofGuest(g, 1), 9 - g);
            Check.due("arm of " + g, x.ofGuest(g, 2), g % 4);
        }
        for (int d = 0; d < dishes; d++) {
            Check.due("seat of " + d, x.ofDish(d, 0), guests - 1 - d % guests);
            Check.due("worth of " + d, x.ofDish(d, 1), d + 4);
        }
    }

    /** "how many codes there are, if it just ends too soon": all but behind a whole DISH. */
    private static void endsTooSoon() {
        for (int guests = FEWEST; guests <= MOST; guests++) {
            String text = text(guests, MOST_DISHES);
            int firstDish = text.indexOf(';');
            for (int n = 0; n <= text.length(); n++) {
                boolean isWhole = n > firstDish && (n - firstDish) % 3 == 0;
                int want = isWhole ? guests : -100 - n;
                SaltBorder x = new SaltBorder();
                Check.due("the first " + n, Check.lay(x, text.substring(0, n)), want);
                Check.due("its fault", x.fault(), 0);
            }
        }
    }

    /** "the / ahead of which there are fewer than 3 GUESTS". */
    private static void tooFewGuests() {
        Check.due("none", Check.lay(new SaltBorder(), "t0/01;00"), -102);
        Check.due("one", Check.lay(new SaltBorder(), "t0,g00/01;00"), -106);
        Check.due("two", Check.lay(new SaltBorder(), "t0,g00,g00/01;00"), -110);
        Check.due("three", Check.lay(new SaltBorder(), "t0,g00,g00,g00/01;00"), 3);
    }

    /** "the , of a ninth GUEST". */
    private static void ninthGuest() {
        String eight = "t0,g00,g00,g00,g00,g00,g00,g00,g00";
        Check.due("eight", Check.lay(new SaltBorder(), eight + "/01;00"), 8);
        Check.due("the comma", Check.lay(new SaltBorder(), eight + ","), -134);
        Check.due("nine", Check.lay(new SaltBorder(), eight + ",g00/01;00"), -134);
        Check.due("eight alone", Check.lay(new SaltBorder(), eight), -134);
    }

    /** "the ; of a seventh DISH". */
    private static void seventhDish() {
        String six = "t0,g00,g00,g00/01;00;00;00;00;00;00";
        Check.due("six", Check.lay(new SaltBorder(), six), 3);
        Check.due("the semicolon", Check.lay(new SaltBorder(), six + ";"), -135);
        Check.due("seven", Check.lay(new SaltBorder(), six + ";00"), -135);
        Check.due("any code", Check.lay(new SaltBorder(), six + "!"), -135);
    }

    /** "then 1 to 6 DISHES": without one the TEXT ends too soon. */
    private static void noDish() {
        Check.due("none", Check.lay(new SaltBorder(), "t0,g00,g00,g00/01"), -117);
        Check.due("one", Check.lay(new SaltBorder(), "t0,g00,g00,g00/01;00"), 3);
        Check.due("another code", Check.lay(new SaltBorder(), "t0,g00,g00,g00/01,"), -117);
    }

    /** "one that there is", "another one that there is": the last SEAT and the one beyond it. */
    private static void seatsThatThereAre() {
        for (int guests = FEWEST; guests <= MOST; guests++) {
            String begin = text(guests, 1).substring(0, 2 + 4 * guests);
            int at = begin.length();
            int last = guests - 1;
            seat(begin + '/' + last + "0;" + last + '0', guests);
            seat(begin + "/0" + last + ";00", guests);
            seat(begin + '/' + guests + "0;00", -100 - (at + 1));
            seat(begin + "/0" + guests + ";00", -100 - (at + 2));
            seat(begin + '/' + last + last + ";00", -100 - (at + 2));
            seat(begin + "/00;00", -100 - (at + 2));
            seat(begin + "/01;" + guests + '0', -100 - (at + 4));
        }
    }

    private static void seat(String text, int want) {
        Check.due(text, Check.lay(new SaltBorder(), text), want);
    }

    private static void emptyText() {
        SaltBorder x = new SaltBorder();
        Check.due("a row of none", Check.lay(x, ""), -100);
        Check.due("guests", x.many(0), 0);
        x.sheet(1, 1, 60);
        for (int i = 0; i <= 60; i += 30) {
            Check.due("no cell from " + i, x.table(1, 1, i, 0), -100);
            Check.due("its fault", x.fault(), 0);
        }
        Check.due("no cell from 61", x.table(1, 1, 61, 0), -13);
        Check.due("sixty of 0", x.table(1, 1, 0, 60), -100);
        Check.due("sixty-one", x.table(1, 1, 0, 61), -13);
    }

    /** "what comes to a cell of it is cut to its LANE": a byte is a code then, a short is not. */
    private static void byteCodesAreCut() {
        String text = text(FEWEST, 1);
        for (int lane = 0; lane < 3; lane++) {
            SaltBorder x = new SaltBorder();
            x.sheet(0, lane, text.length());
            for (int i = 0; i < text.length(); i++) {
                x.put(0, i, text.charAt(i) + 256);
            }
            Check.due("lane " + lane, x.table(0, lane, 0, text.length()), lane == 0 ? 3 : -100);
            for (int i = 0; i < text.length(); i++) {
                x.put(0, i, text.charAt(i) - 65536);
            }
            Check.due("lane " + lane, x.table(0, lane, 0, text.length()), lane < 2 ? 3 : -100);
        }
    }

    /** "n cells of a SHEET from i on": neither the cells ahead of them nor those behind count. */
    private static void whereTheTextStands() {
        String text = text(MOST, MOST_DISHES);
        for (int k = 0; k < 4; k++) {
            SaltBorder x = new SaltBorder();
            int ahead = 60 - text.length();
            Check.write(x, k, k % 3, ahead, text);
            Check.due("up to the last cell", x.table(k, k % 3, ahead, text.length()), 8);
            Check.due("a cell too early", x.table(k, k % 3, ahead - 1, text.length()), -100);
            Check.due("a cell too late", x.table(k, k % 3, ahead + 1, text.length()), -13);
            Check.due("a dish fewer", x.table(k, k % 3, ahead, text.length() - 3), 8);
            Check.due("dishes", x.many(1), 5);
            Check.due("places are from 0 on", x.table(k, k % 3, ahead, 5), -105);
        }
    }

    /** "A TEXT that is taken makes all anew: no READINGS". */
    private static void makesAllAnew() {
        SaltBorder x = Made.full();
        x.chew(0, 9);
        x.cook(3);
        x.rate(0, 9);
        x.carry(0, 5);
        Check.due("the same text", x.table(0, 0, 0, 44), 6);
        Check.due("mouth", x.ofGuest(0, 1), 3);
        Check.due("soup", x.many(2), 2);
        Check.due("worth", x.ofDish(0, 1), 4);
        Check.due("seat", x.ofDish(0, 0), 1);
        Check.due("salt", x.many(3), 0);
        Check.due("readings", x.many(5), 0);
        Check.due("mouths", x.mouths(0), 1023);
        Check.due("the first reading", x.reading(0, 0), 0);
        Check.due("back", x.back(2), SaltBorder.OUTSIDE);
        Check.due("fewer", Check.lay(x, "t0,g00,g00,g00/12;19"), 3);
        Check.due("guest 3", x.ofGuest(3, 0), SaltBorder.UNKNOWN);
        Check.due("dish 1", x.ofDish(1, 0), SaltBorder.UNKNOWN);
        Check.due("land", x.land(0) + x.land(1), 0);
        Check.due("readings", x.many(5), 0);
    }

    /** However far the TEXT goes ahead of its FIRST FAULT. */
    private static void firstFaultChangesNothing() {
        String text = text(MOST, MOST_DISHES);
        String want = Made.told(behindText(""));
        for (int n = 1; n <= text.length(); n++) {
            String told = Made.told(behindText(text.substring(0, n) + "!"));
            Check.isSo("nothing is changed: " + told, told.equals(want));
        }
    }

    private static SaltBorder behindText(String wrong) {
        SaltBorder x = Made.laid();
        if (!wrong.isEmpty()) {
            Check.write(x, 3, 0, 0, wrong);
            Check.due(wrong, x.table(3, 0, 0, wrong.length()), -100 - (wrong.length() - 1));
            x.lose(3);
        }
        return x;
    }
}
