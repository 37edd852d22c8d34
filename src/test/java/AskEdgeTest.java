/** Part 3 and promises 13 to 15, edge by edge: ASK, TREATY, GAME. */
final class AskEdgeTest {
    private static final int NONE = SaltBorder.NONE, OUTSIDE = SaltBorder.OUTSIDE;
    private static final String EIGHT = "t0,g00,g00,g00,g00,g00,g00,g00,g00";

    public static void main(String[] args) {
        askOfNone();
        askAtEveryBorder();
        askEndsWhereItIsTold();
        askLongest();
        askFewestMinutes();
        askFewestRequests();
        askFirstAsRow();
        askByWhatIsNow();
        treatyOfNone();
        treatyNone();
        treatyFewestRequests();
        treatyFirstAsRow();
        gameByTurns();
        gameOfSeveralTheLeast();
        gameLeastThatIsToBe();
        gameMostAndLeast();
        askingChangesNothing();
        Check.finish();
    }

    private static void asked(String what, SaltBorder x, int d, int c, int minutes, String row) {
        Check.due(what + ": minutes", x.ask(d, c, -2), minutes);
        Check.due(what + ": requests", x.ask(d, c, -1), row.length());
        for (int k = 0; k <= 15; k++) {
            Check.due(what + ": " + k, x.ask(d, c, k), k < row.length() ? row.charAt(k) - '0' : NONE);
        }
    }

    private static void agreed(String what, SaltBorder x, String row) {
        Check.due(what + ": requests", x.treaty(-1), row.length());
        for (int k = 0; k <= 15; k++) {
            Check.due(what + ": " + k, x.treaty(k), k < row.length() ? row.charAt(k) - '0' : NONE);
        }
    }

    /** "(of none, if it is already)"; nobody's DISH is not its own. */
    private static void askOfNone() {
        SaltBorder x = Check.laid("t3,g90,g90,g90,g90/02;10;30;00;20");
        asked("0 has it", x, 0, 0, 0, "");
        asked("1 has it", x, 1, 1, 0, "");
        asked("under the salt", x, 2, 0, 12, "0");
        asked("under the salt", x, 2, 1, 12, "1");
        asked("under the pepper", x, 3, 0, 12, "3");
        asked("under the pepper", x, 3, 1, 12, "2");
    }

    private static void askAtEveryBorder() {
        for (int n = 3; n <= 8; n++) {
            for (int pepper = 1; pepper < n; pepper++) {
                for (int seat = 0; seat < n; seat++) {
                    String text = EIGHT.substring(0, 2 + 4 * n) + "/0" + pepper + ';' + seat + '5';
                    rowComesTo(Check.laid(text), 0);
                    rowComesTo(Check.laid(text), 1);
                }
            }
        }
    }

    /** "the row of REQUESTS behind which it is its DISH": behind the last one, not sooner. */
    private static void rowComesTo(SaltBorder x, int c) {
        int count = x.ask(0, c, -1);
        Check.isSo("there is a row", count >= 0 && count <= 16);
        x.sheet(1, 0, 20);
        for (int k = 0; k < count; k++) {
            x.put(1, k, x.ask(0, c, k));
        }
        for (int n = 0; n <= count; n++) {
            int owner = x.dinner(1, 0, 0, n, 10);
            Check.isSo("its dish behind the last alone", (owner == c) == (n == count));
        }
        Check.due("minutes", x.dinner(1, 0, 0, count, 0), x.ask(0, c, -2));
    }

    /** "MINUTES (k -2), how many REQUESTS (k -1), REQUEST k of the row (0 .. 15)". */
    private static void askEndsWhereItIsTold() {
        SaltBorder x = Check.laid("t1" + EIGHT.substring(2) + "/05;25");
        Check.due("ahead", x.ask(0, 1, -3), OUTSIDE);
        Check.due("minutes", x.ask(0, 1, -2), 3);
        Check.due("requests", x.ask(0, 1, -1), 3);
        Check.due("the first", x.ask(0, 1, 0), 1);
        Check.due("its last", x.ask(0, 1, 2), 1);
        Check.due("no such request", x.ask(0, 1, 3), NONE);
        Check.due("no such request", x.ask(0, 1, 15), NONE);
        Check.due("beyond", x.ask(0, 1, 16), OUTSIDE);
    }

    /** PEPPER goes nearly round the table, as SALT stands by full mouths. */
    private static void askLongest() {
        SaltBorder x = Check.laid("t0,g00,g90,g10,g30,g90,g90,g10,g00/56;33");
        asked("six by 14 minutes, not three by 21", x, 0, 0, 14, "333333");
    }

    /** "of the fewest MINUTES", then "of these of the fewest REQUESTS". */
    private static void askFewestMinutes() {
        SaltBorder x = Check.laid(EIGHT + "/05;25");
        asked("three or four, both of no minutes", x, 0, 1, 0, "111");
        x.chew(0, 1);
        asked("four of none, not three of 1", x, 0, 1, 0, "2222");
        x.chew(5, 1);
        asked("three or four, both of 1", x, 0, 1, 1, "111");
        x.chew(0, 2);
        asked("four of 1, not three of 2", x, 0, 1, 1, "2222");
    }

    private static void askFewestRequests() {
        SaltBorder x = Check.laid(EIGHT + "/03;25");
        asked("two of no minutes", x, 0, 1, 0, "22");
        x.cook(3);
        asked("two of 6", x, 0, 1, 6, "22");
        x.carry(0, 1);
        asked("two of 6", x, 0, 1, 6, "11");
    }

    /** "of several the first as a row". */
    private static void askFirstAsRow() {
        SaltBorder x = Check.laid(EIGHT + "/04;25;65");
        asked("111 ahead of 222", x, 0, 1, 0, "111");
        asked("000 ahead of 333", x, 1, 0, 0, "000");
        SaltBorder three = Check.laid("t0,g10,g20,g30/02;15;05;25");
        asked("131 ahead of 202", three, 0, 1, 6, "131");
        asked("nobody's", three, 1, 1, 1, "1");
        asked("13 ahead of 20", three, 2, 0, 4, "13");
    }

    /** SOUP, MOUTHS, the border and the DISH's SEAT are as they are now. */
    private static void askByWhatIsNow() {
        SaltBorder x = Check.laid(EIGHT + "/04;25");
        x.pass(1);
        asked("one is made", x, 0, 1, 0, "11");
        x.pass(1);
        asked("two are made", x, 0, 1, 0, "1");
        x.pass(1);
        asked("all are made", x, 0, 1, 0, "");
        asked("back again", x, 0, 0, 0, "00");
        x.cook(2);
        asked("by soup", x, 0, 0, 4, "00");
        x.carry(0, 3);
        asked("carried", x, 0, 0, 2, "0");
    }

    /** "both COUNTRIES have as much LAND": none, too; REQUESTS of none. */
    private static void treatyOfNone() {
        agreed("as much", Check.laid("t0,g00,g00,g00,g00/02;14;34"), "");
        agreed("nobody's", Check.laid("t0,g00,g00,g00,g00/02;09;29"), "");
        agreed("worth nothing", Check.laid("t0,g00,g00,g00,g00/02;10;10"), "");
        SaltBorder x = Check.laid("t0,g00,g00,g00,g00/02;15;34");
        agreed("not as much: 02 ahead of 13", x, "02");
        x.rate(0, 4);
        agreed("now", x, "");
    }

    private static void treatyNone() {
        SaltBorder x = Check.laid("t0,g00,g00,g00/02;11;01;21");
        for (int k = -1; k <= 15; k++) {
            Check.due("there is none", x.treaty(k), NONE);
        }
        x.rate(2, 0);
        agreed("the third seat is worth nothing", x, "2");
        x.rate(2, 1);
        x.rate(1, 0);
        agreed("the first one", x, "1");
    }

    /** "the row of the fewest REQUESTS": however many MINUTES they take. */
    private static void treatyFewestRequests() {
        SaltBorder x = Check.laid("t3,g90,g00,g00,g00,g00,g00/03;19");
        agreed("one of 12, not two of 6", x, "1");
        agreed("six", Check.laid(EIGHT + "/45;08;10;11"), "000333");
    }

    private static void treatyFirstAsRow() {
        SaltBorder x = Check.laid(EIGHT + "/04;29");
        agreed("11 ahead of 22", x, "11");
        x.carry(0, 6);
        agreed("00 ahead of 33", x, "00");
        x.carry(0, 3);
        agreed("one by pepper", x, "2");
        x.carry(0, 5);
        agreed("one by pepper", x, "3");
        x.carry(0, 7);
        agreed("one by salt", x, "0");
        x.carry(0, 1);
        agreed("one by salt", x, "1");
    }

    private static void game(SaltBorder x, int c, int n, int lead, int request) {
        Check.due("lead of " + c + " by " + n, x.game(c, n, 0), lead);
        Check.due("request of " + c + " by " + n, x.game(c, n, 1), request);
    }

    /**
     * On three SEATS the borders stand in a ring of six, and two REQUESTS are to be at each; LEAD of
     * COUNTRY 0 round the ring: 105, 97, 101, 95, 103, 99.
     */
    private static void gameByTurns() {
        SaltBorder x = Check.laid("t0,g00,g00,g00/02;15;21;03");
        game(x, 0, 1, 99, 2);
        game(x, 0, 2, 103, 2);
        game(x, 0, 3, 99, 2);
        game(x, 0, 4, 103, 2);
        game(x, 1, 1, 103, 1);
        game(x, 1, 2, 95, 1);
        game(x, 1, 3, 103, 1);
        game(x, 1, 4, 95, 1);
        Check.due("n 0", x.game(0, 0, 0), OUTSIDE);
        Check.due("n 5", x.game(0, 5, 0), OUTSIDE);
    }

    /** "(of several the least REQUEST)". */
    private static void gameOfSeveralTheLeast() {
        SaltBorder x = Check.laid("t0,g00,g00,g00,g00/02;15;32");
        game(x, 0, 1, 105, 0);
        game(x, 1, 1, 102, 1);
        game(x, 0, 2, 100, 0);
        SaltBorder even = Check.laid("t0,g00,g00,g00,g00/02;10");
        for (int n = 1; n <= 4; n++) {
            game(even, 0, n, 100, 0);
            game(even, 1, n, 100, 0);
        }
    }

    /** A REQUEST that is not to be is not made, be it the least. */
    private static void gameLeastThatIsToBe() {
        for (int n = 1; n <= 4; n++) {
            SaltBorder x = Check.laid("t0,g00,g00,g00,g00/10;20");
            game(x, 0, n, 100, 1);
            game(x, 1, n, 100, 1);
            SaltBorder round = Check.laid("t0,g00,g00,g00,g00/03;10");
            game(round, 0, n, 100, 1);
            game(round, 1, n, 100, 1);
        }
    }

    /** "100 and its LAND, less that of the other one": from 46 to 154. */
    private static void gameMostAndLeast() {
        SaltBorder x = Check.laid(EIGHT + "/03;59;59;59;59;59;59");
        game(x, 0, 1, 46, 0);
        game(x, 1, 1, 154, 0);
        x.pass(0);
        x.pass(0);
        Check.due("salt is beside them", x.many(3), 6);
        game(x, 0, 1, 100, 0);
        game(x, 0, 2, 46, 0);
        game(x, 0, 3, 100, 0);
        game(x, 0, 4, 46, 0);
        game(x, 1, 1, 154, 1);
        game(x, 1, 2, 154, 1);
        game(x, 1, 3, 154, 1);
        game(x, 1, 4, 154, 1);
    }

    private static void askingChangesNothing() {
        SaltBorder x = Made.laid();
        for (int k = -2; k <= 15; k++) {
            x.ask((k + 2) % 5, k & 1, k);
            x.treaty(Math.max(k, -1));
            x.game(k & 1, 1 + (k & 3), k >> 1 & 1);
        }
        Check.due("fault stays", x.fault(), Made.LEFT_FAULT);
        Check.isSo("nothing is changed", Made.told(x).equals(Made.told(Made.laid())));
    }
}
