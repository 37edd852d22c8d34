import java.util.Random;

/** All calls, at random (but the same ones each time), against PlainModel. */
final class ModelTest {
    private static final int OBJECTS = 1500, CALLS = 512, FACE = 33, MOST_OF_A_STEP = 60;
    private static final int[] FAR = {Integer.MIN_VALUE, Integer.MAX_VALUE, -1000, 1 << 16, 256, -256};

    private final Random random;
    private final SaltBorder x = new SaltBorder();
    private final PlainModel m = new PlainModel();
    private final int run;
    private int left = CALLS;

    private ModelTest(int run) {
        this.run = run;
        this.random = new Random(run);
    }

    public static void main(String[] args) {
        for (int run = 0; run < OBJECTS; run++) {
            new ModelTest(run).go();
        }
        Check.finish();
    }

    private void go() {
        if (random.nextInt(8) != 0) {
            text(false);
        }
        while (left >= MOST_OF_A_STEP) {
            switch (random.nextInt(300)) {
                case 0: text(false); break;
                case 1: text(true); break;
                case 2: case 3: case 4: case 5: dinner(); break;
                default: any(random.nextInt(FACE));
            }
        }
    }

    private void same(String call, long got, long want) {
        left--;
        Check.due("run " + run + ", " + left + " left: " + call, got, want);
    }

    /** Mostly near low .. high, and over its edges; now and then far away. */
    private int near(int low, int high) {
        if (random.nextInt(60) == 0) {
            return FAR[random.nextInt(FAR.length)];
        }
        if (random.nextInt(12) == 0) {
            return low - 1 + random.nextInt(high - low + 3);
        }
        return low + random.nextInt(high - low + 1);
    }

    private int guest() {
        return near(0, Math.max(m.many(0) - 1, 0));
    }

    private int dish() {
        return near(0, Math.max(m.many(1) - 1, 0));
    }

    private void text(boolean spoilt) {
        StringBuilder text = new StringBuilder("t").append(random.nextInt(4));
        int n = 3 + random.nextInt(6);
        int full = 1 + random.nextInt(10);
        for (int g = 0; g < n; g++) {
            text.append(',').append("gac".charAt(random.nextInt(3)));
            text.append(random.nextInt(full)).append(random.nextInt(4));
        }
        int salt = random.nextInt(n);
        text.append('/').append(salt).append((salt + 1 + random.nextInt(n - 1)) % n);
        for (int d = random.nextInt(6); d >= 0; d--) {
            text.append(';').append(random.nextInt(n)).append(random.nextInt(10));
        }
        if (spoilt) {
            String codes = "tgac,/;0123456789x";
            int at = random.nextInt(text.length());
            text.setCharAt(at, codes.charAt(random.nextInt(codes.length())));
        }
        int lane = random.nextInt(3), k = random.nextInt(4), ahead = random.nextInt(3);
        same("sheet", x.sheet(k, lane, text.length() + ahead), m.sheet(k, lane, text.length() + ahead));
        for (int i = 0; i < text.length(); i++) {
            same("put", x.put(k, ahead + i, text.charAt(i)), m.put(k, ahead + i, text.charAt(i)));
        }
        int count = text.length() - (spoilt && random.nextBoolean() ? random.nextInt(5) : 0);
        same("table " + text, x.table(k, lane, ahead, count), m.table(k, lane, ahead, count));
    }

    private void dinner() {
        int k = random.nextInt(4), lane = random.nextInt(3), n = random.nextInt(9);
        same("sheet", x.sheet(k, lane, n), m.sheet(k, lane, n));
        for (int i = 0; i < n; i++) {
            int r = random.nextInt(40) == 0 ? near(-1, 4) : random.nextInt(4);
            same("put", x.put(k, i, r), m.put(k, i, r));
        }
        for (int what = 0; what <= 15; what++) {
            same("dinner", x.dinner(k, lane, 0, n, what), m.dinner(k, lane, 0, n, what));
        }
    }

    private void any(int call) {
        if (call < 9) {
            ofTable(call);
        } else if (call < 16) {
            ofRequests(call);
        } else if (call < 22) {
            ofReadings(call);
        } else {
            ofSheets(call);
        }
    }

    private void ofTable(int call) {
        int g = guest(), d = dish(), what = near(0, 3), v = near(0, 9), c = near(0, 1);
        switch (call) {
            case 0: {
                int k = near(0, 3), lane = near(0, 2), i = near(0, 3), n = near(0, 60);
                same("table", x.table(k, lane, i, n), m.table(k, lane, i, n));
                break;
            }
            case 1: same("ofGuest", x.ofGuest(g, what), m.ofGuest(g, what)); break;
            case 2: same("ofDish", x.ofDish(d, what), m.ofDish(d, what)); break;
            case 3: same("whose", x.whose(g), m.whose(g)); break;
            case 4: same("land", x.land(c), m.land(c)); break;
            case 5: same("chew", x.chew(g, v), m.chew(g, v)); break;
            case 6: same("cook", x.cook(what), m.cook(what)); break;
            case 7: same("rate", x.rate(d, v), m.rate(d, v)); break;
            default: same("carry", x.carry(d, g), m.carry(d, g));
        }
    }

    private void ofRequests(int call) {
        int d = dish(), c = near(0, 1), n = near(1, 4), what = near(0, 1);
        switch (call) {
            case 9: {
                int r = near(0, 3);
                same("pass", x.pass(r), m.pass(r));
                break;
            }
            case 10: {
                int k = near(0, 3), lane = near(0, 2), i = near(0, 60), count = near(0, 40);
                int asked = near(0, 15);
                same("dinner", x.dinner(k, lane, i, count, asked), m.dinner(k, lane, i, count, asked));
                break;
            }
            case 11:
                for (int k = -3; k <= 16; k++) {
                    same("ask " + d + " " + c + " " + k, x.ask(d, c, k), m.ask(d, c, k));
                }
                break;
            case 12:
                for (int k = -2; k <= 16; k++) {
                    same("treaty " + k, x.treaty(k), m.treaty(k));
                }
                break;
            case 13: same("game " + c + n + what, x.game(c, n, what), m.game(c, n, what)); break;
            case 14: {
                int set = near(0, (1 << m.many(0)) - 1);
                same("spilt " + set, x.spilt(set), m.spilt(set));
                break;
            }
            default: {
                int steps = random.nextInt(10) == 0 ? near(0, 20) : near(0, 9);
                same("home " + steps, x.home(steps), m.home(steps));
            }
        }
    }

    private void ofReadings(int call) {
        int g = guest(), d = dish(), c = near(0, 1);
        switch (call) {
            case 16: {
                int is = m.ofGuest(g, 3);
                int v = random.nextInt(3) != 0 && is >= 0 ? is : near(0, 19);
                same("reading " + g + " " + v, x.reading(g, v), m.reading(g, v));
                break;
            }
            case 17: {
                int k = near(0, 2);
                same("back " + k, x.back(k), m.back(k));
                break;
            }
            case 18: same("mouths " + g, x.mouths(g), m.mouths(g)); break;
            case 19: same("kinds " + g, x.kinds(g), m.kinds(g)); break;
            case 20: same("soups", x.soups(), m.soups()); break;
            default: {
                int n = near(0, 8), which = near(0, 1);
                same("odds " + d + c + n + which, x.odds(d, c, n, which), m.odds(d, c, n, which));
            }
        }
    }

    private void ofSheets(int call) {
        int k = near(0, 3), lane = near(0, 2), i = near(0, 20), g = guest(), v = random.nextInt();
        switch (call) {
            case 22: {
                int n = near(0, 60);
                same("sheet", x.sheet(k, lane, n), m.sheet(k, lane, n));
                break;
            }
            case 23: same("lose", x.lose(k), m.lose(k)); break;
            case 24: same("put", x.put(k, i, v), m.put(k, i, v)); break;
            case 25: same("cell", x.cell(k, i, lane), m.cell(k, i, lane)); break;
            case 26: {
                int other = near(0, 3), j = near(0, 20), n = near(0, 20);
                same("copy", x.copy(k, i, other, j, n), m.copy(k, i, other, j, n));
                break;
            }
            case 27: same("tell", x.tell(g), m.tell(g)); break;
            case 28: same("toast", x.toast(g), m.toast(g)); break;
            case 29: same("as", x.as(g, lane), m.as(g, lane)); break;
            case 30: same("trace", x.trace(), m.trace()); break;
            case 31: same("fault", x.fault(), m.fault()); break;
            default: {
                int what = near(0, 5);
                same("many", x.many(what), m.many(what));
            }
        }
    }
}
