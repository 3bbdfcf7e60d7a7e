import java.util.Objects;

/** Each promise of the document: ordinary inputs, the edges that it names, and wrong inputs. */
public final class PromiseTests {
    private static final int NONE = BoatLift.NONE;
    private static final int MIN = Integer.MIN_VALUE;
    private static final int MAX = Integer.MAX_VALUE;
    private static int wrong = 0;
    private static int asked = 0;

    private static void due(String what, Object got, Object want) {
        asked++;
        if (!Objects.equals(got, want)) {
            wrong++;
            System.out.println(what + " answered " + got + ", due is " + want);
        }
    }

    /** Feeds a text, with blanks behind it up to the next twenty bytes. */
    private static void feedText(BoatLift x, String text) {
        StringBuilder padded = new StringBuilder(text);
        while (padded.length() == 0 || padded.length() % 20 != 0) {
            padded.append(' ');
        }
        for (int at = 0; at < padded.length(); at += 20) {
            x.feed(four(padded, at), four(padded, at + 4), four(padded, at + 8), four(padded, at + 12), four(padded, at + 16));
        }
    }

    private static int four(CharSequence s, int at) {
        return s.charAt(at) << 24 | s.charAt(at + 1) << 16 | s.charAt(at + 2) << 8 | s.charAt(at + 3);
    }

    private static int law(BoatLift x, String text) {
        feedText(x, text);
        return x.law(text.length());
    }

    private static String laws(BoatLift x) {
        StringBuilder all = new StringBuilder();
        for (int what = 10; what <= 15; what++) {
            all.append(x.count(what)).append(' ');
        }
        return all.toString().trim();
    }

    /** Everything that the face tells of an object. BoundaryTests asks it behind each refused call; here, once behind all of them. */
    private static String state(BoatLift x) {
        StringBuilder all = new StringBuilder();
        for (int what = -1; what <= 22; what++) {
            all.append(x.count(what)).append(' ');
        }
        for (int side = 0; side < 2; side++) {
            all.append("| ").append(x.stock(side)).append(' ').append(x.level(side)).append(' ').append(x.depth(side)).append(' ');
        }
        for (int b = 0; b < 16; b++) {
            all.append("| ");
            for (int what = 0; what <= 8; what++) {
                all.append(x.look(b, what)).append(' ');
            }
        }
        return all.append("| ").append(x.plan()).append(' ').append(x.ends()).toString();
    }

    private static void newObject() {
        BoatLift x = new BoatLift();
        int[] first = {100, 0, 0, 0, 0, 0, 0, 0, 0, NONE, 10, 3, 5, 2, 50, 30, NONE, NONE, NONE, NONE, 1000, 1000, NONE};
        for (int what = 0; what < first.length; what++) {
            due("1: count(" + what + ")", x.count(what), first[what]);
        }
        for (int side = 0; side < 2; side++) {
            due("1: stock", x.stock(side), 0L);
            due("1: level", x.level(side), 0);
            due("1: depth", x.depth(side), 30);
            due("1: queue", x.queue(side, 20000, 0), NONE);
        }
        due("1: no boat", x.look(0, 0), NONE);
        due("1: fitting", x.fitting(0), 0);
        due("1: plan", x.plan(), 0);
        due("1: ends", x.ends(), NONE);
        due("1: no ice", x.ride(0, 0), 16);
        BoatLift y = new BoatLift();
        due("1: memory is the object's own", y.count(4), 0);
        due("1: NONE", BoatLift.NONE, -1);
    }

    private static void feed() {
        BoatLift x = new BoatLift();
        due("2: feed 1", x.feed(0, 0, 0, 0, 0), 20);
        due("2: feed 2", x.feed(-1, -1, -1, -1, -1), 40);
        due("2: feed 3", x.feed(MIN, MAX, 1, 2, 3), 60);
        due("2: feed 4", x.feed(0, 0, 0, 0, 0), NONE);
        due("2: the tape stays", x.count(7), 60);
        due("2: law", x.law(60), 100);
        due("2: feed again", x.feed(0, 0, 0, 0, 0), 20);
        x.law(0);
        // every one of the twenty places, the highest byte of each int first
        feedText(x, "t11;g12;i13;k14;s15;");
        due("2: order of bytes", x.law(19), 0);
        due("2: what they tell", laws(x), "11 12 13 14 15 30");
        feedText(x, "t999;g99;i99;k20;s999;r999;t1;g0;i0;k0;s1;r1;t0042;g007");
        due("2: behind the tape", x.law(55), 0);
        due("2: what three feeds tell", laws(x), "42 7 0 0 1 1");
    }

    private static void law() {
        BoatLift x = new BoatLift();
        due("3: no bytes", x.law(0), 100);
        due("3: more than it has", x.law(1), NONE);
        due("3: all letters", law(x, "t1;g2;i3;k4;s5;r6"), 0);
        due("3: their numbers", laws(x), "1 2 3 4 5 6");
        due("3: the tape is empty", x.count(7), 0);
        due("3: what is not told is as at first", law(x, "k0"), 0);
        due("3: numbers", laws(x), "10 3 5 0 50 30");
        due("3: the later one counts", law(x, "t5;t7;g1;t6"), 0);
        due("3: numbers", laws(x), "6 1 5 2 50 30");
        feedText(x, "t77");
        due("3: below 0", x.law(-1), NONE);
        due("3: below 0", x.law(MIN), NONE);
        due("3: 21 of 20", x.law(21), NONE);
        due("3: far too many", x.law(MAX), NONE);
        due("3: the tape stays", x.count(7), 20);
        due("3: the law stays", laws(x), "6 1 5 2 50 30");
        due("3: fewer than told", x.law(2), 0);
        due("3: numbers", laws(x), "7 3 5 2 50 30");
        faults(x);
        bounds();
    }

    private static void faults(BoatLift x) {
        Object[][] rows = {
            {"x1", 100}, {"T1", 100}, {";", 100}, {"1", 100}, {" t1", 100}, {"t1;", 103}, {"t1;;g1", 103}, {"t1;x", 103},
            {"t1; g1", 103}, {"t1;g1;", 106}, {"\u00f41", 100}, {"\u0000", 100},
            {"t", 201}, {"tx", 201}, {"t;", 201}, {"t-1", 201}, {"t 1", 201}, {"t1;g", 204}, {"t1;g;", 204}, {"t/", 201}, {"t:", 201},
            {"t12345", 305}, {"t00001", 305}, {"i12345x", 305}, {"t1;g00000", 308}, {"t000010", 305},
            {"t0", 401}, {"t0000", 401}, {"t1000", 401}, {"t9999", 401}, {"t0x", 401}, {"t1;g100", 404}, {"t1;g100;x", 404},
            {"t1x", 502}, {"t1 ", 502}, {"t1,g1", 502}, {"t1g1", 502}, {"t1;g2t", 505}, {"t0010t", 505}, {"t1:", 502}, {"t1\u00b2", 502},
        };
        String before = laws(x);
        for (Object[] row : rows) {
            due("3: law '" + row[0] + "'", law(x, (String) row[0]), row[1]);
            due("3: it stays behind '" + row[0] + "'", laws(x), before);
            due("3: the tape behind '" + row[0] + "'", x.count(7), 0);
        }
        feedText(x, "t1;g2;i3;k4;s5;r6;t7;g8;i9;k10;s11;r12;t13;g14;i15;k16;s17;x");
        due("3: tape", x.count(7), 60);
        due("3: the end where n ends", x.law(57), 0);
        due("3: numbers", laws(x), "13 14 15 16 1 12");
    }

    private static void bounds() {
        String letters = "tgiksr";
        int[] least = {1, 0, 0, 0, 1, 1};
        int[] most = {999, 99, 99, 20, 999, 999};
        for (int i = 0; i < 6; i++) {
            BoatLift x = new BoatLift();
            char letter = letters.charAt(i);
            due("3: least " + letter, law(x, letter + "" + least[i]), 0);
            due("3: its number", x.count(10 + i), least[i]);
            due("3: most " + letter, law(x, letter + "" + most[i]), 0);
            due("3: its number", x.count(10 + i), most[i]);
            due("3: above " + letter, law(x, letter + "" + (most[i] + 1)), 401);
            if (least[i] > 0) {
                due("3: below " + letter, law(x, letter + "" + (least[i] - 1)), 401);
            }
            due("3: it stays", x.count(10 + i), most[i]);
        }
    }

    private static void trough() {
        BoatLift x = new BoatLift();
        x.boat(0, 0, 50, 1, 1, 0);
        due("4: trough(10)", x.trough(10), true);
        due("4: its length", x.count(0), 10);
        due("4: fit", x.look(0, 6), 0);
        due("4: trough(49)", x.trough(49), true);
        due("4: fit", x.look(0, 6), 0);
        due("4: trough(50)", x.trough(50), true);
        due("4: fit", x.look(0, 6), 1);
        due("4: trough(200)", x.trough(200), true);
        due("4: its length", x.count(0), 200);
        String before = state(x);
        for (int n : new int[] {9, 201, 0, -1, MIN, MAX}) {
            due("4: trough(" + n + ")", x.trough(n), false);
        }
        due("4: those refused changed nothing", state(x), before);
    }

    private static void area() {
        BoatLift x = new BoatLift();
        x.flow(0, 10000);
        x.flow(1, -10000);
        due("5: area(0, 1)", x.area(0, 1), true);
        due("5: count(20)", x.count(20), 1);
        due("5: count(21)", x.count(21), 1000);
        due("5: stock stays", x.stock(0), 10000L);
        due("5: level", x.level(0), 10000);
        due("5: depth", x.depth(0), 1030);
        due("5: area(1, 10000)", x.area(1, 10000), true);
        due("5: count(21)", x.count(21), 10000);
        due("5: level", x.level(1), -1);
        due("5: depth", x.depth(1), 29);
        String before = state(x);
        int[][] bad = {{0, 0}, {0, 10001}, {0, -1}, {1, 0}, {1, 10001}, {2, 5}, {-1, 5}, {MIN, 5}, {MAX, 5}, {0, MIN}, {1, MAX}};
        for (int[] b : bad) {
            due("5: area(" + b[0] + ", " + b[1] + ")", x.area(b[0], b[1]), false);
        }
        due("5: those refused changed nothing", state(x), before);
    }

    private static void flow() {
        BoatLift x = new BoatLift();
        due("6: flow", x.flow(0, 1000000), true);
        due("6: stock", x.stock(0), 1000000L);
        due("6: other stock", x.stock(1), 0L);
        due("6: flow", x.flow(1, -1000000), true);
        due("6: stock", x.stock(1), -1000000L);
        due("6: none comes", x.flow(1, 0), true);
        due("6: it adds", x.flow(0, -7), true);
        due("6: stock", x.stock(0), 999993L);
        String before = state(x);
        int[][] bad = {{0, 1000001}, {0, -1000001}, {1, MIN}, {1, MAX}, {2, 0}, {-1, 0}, {MIN, 1}, {MAX, 1}};
        for (int[] b : bad) {
            due("6: flow(" + b[0] + ", " + b[1] + ")", x.flow(b[0], b[1]), false);
        }
        due("6: those refused changed nothing", state(x), before);
        BoatLift y = new BoatLift();
        y.area(0, 1);
        for (int i = 0; i < 500; i++) {
            y.flow(0, 1000000);
        }
        due("6: much", y.stock(0), 500000000L);
        due("6: much, level", y.level(0), 500000000);
        due("6: much, depth", y.depth(0), 50000030);
    }

    private static void ice() {
        BoatLift x = new BoatLift();
        due("7: ice", x.ice(16, 17), true);
        int[][] bad = {{5, 5}, {6, 5}, {-1, 5}, {0, 20001}, {20000, 20000}, {20000, 20001}, {MIN, MAX}, {0, MAX}, {MIN, 0}};
        for (int[] b : bad) {
            due("7: ice(" + b[0] + ", " + b[1] + ")", x.ice(b[0], b[1]), false);
        }
        due("7: not yet in ice", x.ride(15 - 15, 0), 16);
        due("7: in ice", x.ride(16, 0), 37);
        due("7: told twice", x.ice(37, 60), true);
        due("7: told twice", x.ice(30, 50), true);
        due("7: i once", x.ride(37, 0), 58);
        due("7: ride", x.ride(60, 0), 76);
        due("7: the last minute", x.ice(0, 20000), true);
        for (int i = 0; i < 4; i++) {
            due("7: up to eight", x.ice(i, i + 1), true);
        }
        due("7: the ninth", x.ice(100, 200), false);
        due("7: ice", x.ride(19979, 0), 20000);
        BoatLift y = new BoatLift();
        due("7: ice", y.ice(10, 20), true);
        due("7: just ahead of it", y.ride(9, 0), 25);
        y = new BoatLift();
        y.ice(10, 20);
        due("7: at its begin", y.ride(10, 0), 31);
        y = new BoatLift();
        y.ice(10, 20);
        due("7: its last minute", y.ride(19, 0), 40);
        y = new BoatLift();
        y.ice(10, 20);
        due("7: that not counted", y.ride(20, 0), 36);
        BoatLift z = new BoatLift();
        for (int i = 0; i < 8; i++) {
            due("7: the same again", z.ice(i == 7 ? 0 : 100, i == 7 ? 1 : 101), true);
        }
        due("7: refused", z.ice(300, 301), false);
        due("7: the eighth counts", z.ride(0, 0), 21);
        due("7: the ninth doesn't", z.ride(300, 0), 316);
    }

    private static void boat() {
        BoatLift x = new BoatLift();
        due("8: least", x.boat(0, 0, 1, 1, 1, 0), 0);
        due("8: most", x.boat(1, 20000, 100, 40, 2000, 3), 1);
        int[] want = {1, 20000, 100, 40, 2000, 3, 0, NONE, NONE};
        for (int what = 0; what < want.length; what++) {
            due("8: look(1, " + what + ")", x.look(1, what), want[what]);
        }
        int[] good = {0, 5, 6, 7, 8, 1};
        int[][] bad = {{2, -1}, {20001, -1}, {101, 0}, {41, 0}, {2001, 0}, {4, -1}};
        String before = state(x);
        for (int i = 0; i < 6; i++) {
            for (int n : new int[] {bad[i][0], bad[i][1], MIN, MAX}) {
                int[] a = good.clone();
                a[i] = n;
                due("8: argument " + i + " is " + n, x.boat(a[0], a[1], a[2], a[3], a[4], a[5]), NONE);
            }
        }
        due("8: those refused changed nothing", state(x), before);
        for (int b = 2; b < 16; b++) {
            due("8: boat", x.boat(0, b, b, b, b, b % 4), b);
        }
        due("8: count(5)", x.count(5), 16);
        due("8: the seventeenth", x.boat(0, 0, 1, 1, 1, 0), NONE);
        due("8: count(5)", x.count(5), 16);
    }

    private static void queue() {
        BoatLift x = new BoatLift();
        x.boat(0, 9, 10, 1, 1, 2);
        x.boat(0, 8, 10, 1, 1, 2);
        x.boat(0, 9, 10, 1, 1, 1);
        x.boat(0, 9, 10, 1, 1, 1);
        x.boat(0, 10, 10, 1, 1, 0);
        x.boat(1, 0, 10, 1, 1, 3);
        x.boat(0, 0, 10, 29, 1, 0);
        x.boat(0, 8, 10, 28, 1, 2);
        int[] at10 = {4, 2, 3, 1, 7, 0, NONE};
        int[] at9 = {2, 3, 1, 7, 0, NONE};
        int[] at8 = {1, 7, NONE};
        expectQueue(x, 0, 10, at10);
        expectQueue(x, 0, 20000, at10);
        expectQueue(x, 0, 9, at9);
        expectQueue(x, 0, 8, at8);
        expectQueue(x, 0, 7, new int[] {NONE});
        expectQueue(x, 1, 0, new int[] {5, NONE});
        int[][] bad = {{2, 0, 0}, {-1, 0, 0}, {0, -1, 0}, {0, 20001, 0}, {0, 10, -1}, {0, 10, 16}, {0, 10, MAX}, {0, 10, MIN}, {MAX, 10, 0}, {0, MAX, 0}, {0, MIN, 0}};
        for (int[] b : bad) {
            due("9: queue(" + b[0] + ", " + b[1] + ", " + b[2] + ")", x.queue(b[0], b[1], b[2]), NONE);
        }
        x.ride(9, 2);
        // 7 is too deep now: the water of two boats went down
        expectQueue(x, 0, 20000, new int[] {4, 1, 0, NONE});
        expectQueue(x, 1, 20000, new int[] {5, NONE});
    }

    private static void expectQueue(BoatLift x, int side, int minute, int[] want) {
        for (int i = 0; i < want.length; i++) {
            due("9: queue(" + side + ", " + minute + ", " + i + ")", x.queue(side, minute, i), want[i]);
        }
    }

    private static void fitting() {
        BoatLift x = new BoatLift();
        x.boat(0, 0, 40, 1, 1, 1);
        x.boat(0, 1, 60, 1, 1, 1);
        x.boat(0, 2, 1, 1, 1, 1);
        x.boat(0, 3, 99, 1, 1, 0);
        x.boat(1, 0, 50, 1, 1, 0);
        due("10: one", x.fitting(0), 1);
        due("10: just as long as the trough", x.fitting(1), 2);
        due("10: only first ones", x.fitting(2), 2);
        due("10: the first one is long", x.fitting(3), 1);
        due("10: the last minute", x.fitting(20000), 1);
        x.trough(99);
        due("10: a shorter trough", x.fitting(1), 1);
        due("10: a shorter trough", x.fitting(3), 1);
        x.trough(98);
        due("10: the long one is not fit", x.fitting(3), 1);
        x.trough(200);
        due("10: a longer trough", x.fitting(3), 4);
        x.ride(0, 0);
        due("10: the side of the trough", x.fitting(0), 1);
        for (int minute : new int[] {-1, 20001, MIN, MAX}) {
            due("10: fitting(" + minute + ")", x.fitting(minute), NONE);
        }
    }

    private static void ride() {
        BoatLift x = new BoatLift();
        x.boat(0, 3, 50, 1, 100, 0);
        x.boat(0, 5, 50, 1, 30, 0);
        x.boat(0, 6, 50, 1, 7, 0);
        x.boat(1, 0, 50, 1, 2000, 0);
        int[][] bad = {{-1, 0}, {20001, 0}, {MIN, 0}, {MAX, 0}, {6, -1}, {6, 3}, {2, 1}, {4, 2}, {6, MIN}, {6, MAX}, {19985, 0}, {20000, 0}};
        String before = state(x);
        for (int[] b : bad) {
            due("11: ride(" + b[0] + ", " + b[1] + ")", x.ride(b[0], b[1]), NONE);
        }
        due("11: those refused changed nothing", state(x), before);
        due("11: ride", x.ride(7, 2), 23);
        due("11: side", x.count(1), 1);
        due("11: free", x.count(2), 23);
        due("11: seal", x.count(3), 1);
        due("11: ever", x.count(4), 1);
        due("11: carried", x.count(6), 2);
        due("11: waited", x.count(8), 6);
        due("11: lower", x.stock(0), 130L);
        due("11: upper", x.stock(1), -130L);
        due("11: began", x.look(0, 7), 7);
        due("11: waited", x.look(0, 8), 4);
        due("11: waited", x.look(1, 8), 2);
        due("11: the third isn't carried", x.look(2, 7), NONE);
        due("11: its side is as told", x.look(0, 0), 0);
        due("11: not free", x.ride(22, 0), NONE);
        due("11: down", x.ride(23, 1), 39);
        due("11: lower, a leak of one", x.stock(0), 130L - 2000 + 1);
        due("11: upper, a leak of one", x.stock(1), -130L + 2000 - 1);
        due("11: side", x.count(1), 0);
        due("11: waited", x.look(3, 8), 23);
        due("11: none, too", x.ride(50, 0), 66);
        due("11: lower, a leak of two", x.stock(0), -1867L);
        due("11: upper, a leak of two", x.stock(1), 1867L);
        due("11: none carried", x.count(6), 3);
        due("11: the last minute", x.ride(19984, 0), 20000);
        due("11: waited together", x.count(8), 29);
        seals();
        fitWhileRiding();
    }

    private static void seals() {
        BoatLift x = new BoatLift();
        due("11: law", law(x, "s3;t1;g0;i0"), 0);
        due("11: ride 1", x.ride(0, 0), 1);
        due("11: ride 2", x.ride(1, 0), 2);
        due("11: ride 3", x.ride(2, 0), 3);
        due("11: leaks", x.stock(0), 3L);
        due("11: worn", x.ride(3, 0), NONE);
        law(x, "s2;t1;g0");
        due("11: more than it bears", x.ride(3, 0), NONE);
        law(x, "s4;t1;g0");
        due("11: it bears one more", x.ride(3, 0), 4);
        due("11: leaks", x.stock(0), 6L);
        due("11: renew", x.renew(4), 34);
        due("11: free", x.ride(33, 0), NONE);
        due("11: as new", x.ride(34, 0), 35);
        due("11: no leak", x.stock(0), 6L);
        due("11: seal", x.count(3), 1);
        due("11: ever", x.count(4), 5);
    }

    /** The water of the first boat would leave the second one too deep. */
    private static void fitWhileRiding() {
        BoatLift x = new BoatLift();
        x.area(1, 1);
        x.boat(0, 0, 10, 28, 2000, 0);
        x.boat(0, 0, 10, 28, 2000, 1);
        due("11: both fit", x.fitting(0), 2);
        due("11: both ride", x.ride(0, 2), 16);
        due("11: both carried", x.count(6), 2);
        due("11: water of both", x.stock(1), -4000L);
        due("11: too deep now", x.look(1, 6), 0);
        due("11: carried all the same", x.look(1, 7), 0);
    }

    private static void renew() {
        BoatLift x = new BoatLift();
        x.boat(0, 0, 10, 1, 1, 0);
        x.ride(0, 1);
        String before = state(x);
        for (int minute : new int[] {15, -1, 20001, MIN, MAX, 19971, 20000}) {
            due("12: renew(" + minute + ")", x.renew(minute), NONE);
        }
        due("12: those refused changed nothing", state(x), before);
        due("12: renew", x.renew(16), 46);
        due("12: free", x.count(2), 46);
        due("12: seal", x.count(3), 0);
        due("12: ever", x.count(4), 1);
        due("12: the side stays", x.count(1), 1);
        due("12: no water", x.stock(0), 1L);
        due("12: again", x.renew(46), 76);
        law(x, "r999");
        due("12: the last one", x.renew(19001), 20000);
        due("12: behind it", x.renew(20000), NONE);
    }

    private static void plan() {
        BoatLift x = new BoatLift();
        due("13: no boats", x.plan(), 0);
        due("14: no boats", x.ends(), NONE);
        x.boat(0, 0, 10, 29, 1, 0);
        due("13: none fit", x.plan(), 0);
        due("14: none fit", x.ends(), NONE);
        x.boat(0, 100, 10, 1, 1, 0);
        due("13: a later one", x.plan(), 0);
        due("14: a later one", x.ends(), 116);
        x.boat(1, 84, 10, 1, 1, 0);
        due("13: there and back", x.plan(), 0);
        due("14: there and back", x.ends(), 116);
        x.boat(1, 100, 10, 1, 1, 0);
        due("13: one of them waits", x.plan(), 16);
        due("14: one of them waits", x.ends(), 132);
        String before = state(x);
        for (int b = 0; b < 3; b++) {
            x.boat(0, 100, 10, 1, 1, 0);
        }
        due("13: six", x.plan(), 16);
        due("14: six", x.ends(), 132);
        x.boat(0, 100, 10, 29, 1, 0);
        due("13: one that is not fit", x.plan(), 16);
        x.boat(1, 200, 10, 1, 1, 0);
        due("13: seven", x.plan(), -2);
        due("14: seven", x.ends(), -2);
        x.ride(68, 0);
        x.ride(84, 1);
        due("13: one is carried", x.plan(), 16);
        due("14: one is carried", x.ends(), 216);
        due("13: what was planned changed nothing", before.contains("| 16 132"), true);
        planRules();
    }

    private static void planRules() {
        BoatLift x = new BoatLift();
        x.boat(1, 0, 10, 1, 1, 0);
        x.ride(0, 0);
        x.ride(16, 0);
        due("13: an empty one though the last was empty", x.plan(), 48);
        due("14: an empty one though the last was empty", x.ends(), 64);
        x = new BoatLift();
        x.boat(0, 19990, 10, 1, 1, 0);
        x.boat(0, 20000, 100, 1, 1, 0);
        due("13: beyond the last minute", x.plan(), 22);
        due("14: beyond the last minute", x.ends(), 20038);
        x = new BoatLift();
        law(x, "s1");
        x.ride(0, 0);
        x.boat(1, 20, 10, 1, 1, 0);
        due("13: seals are not asked", x.plan(), 0);
        due("14: seals are not asked", x.ends(), 36);
        x = new BoatLift();
        x.area(1, 1);
        x.boat(0, 0, 60, 28, 2000, 0);
        x.boat(0, 0, 60, 28, 2000, 0);
        due("13: depths as they are", x.plan(), 32);
        due("14: depths as they are", x.ends(), 48);
        x = new BoatLift();
        law(x, "i90");
        x.ice(0, 1);
        x.boat(0, 0, 10, 1, 1, 0);
        x.boat(1, 1, 10, 1, 1, 0);
        due("13: waiting for a boat of the other side, out of the ice", x.plan(), 1 + 16);
        due("14: waiting for a boat of the other side, out of the ice", x.ends(), 33);
        x = new BoatLift();
        law(x, "i99");
        x.ice(31, 32);
        x.boat(0, 31, 10, 1, 1, 0);
        x.boat(1, 48, 10, 1, 1, 0);
        due("13: two empty ones would pass the ice by", x.plan(), 33);
        due("14: two empty ones would pass the ice by", x.ends(), 80);
        longPlans();
        x = new BoatLift();
        x.trough(10);
        x.boat(0, 0, 10, 1, 1, 3);
        x.boat(0, 0, 10, 1, 1, 0);
        x.boat(1, 16, 10, 1, 1, 0);
        due("13: first ones first", x.plan(), 32);
        due("14: first ones first", x.ends(), 48);
        x = new BoatLift();
        x.boat(0, 0, 10, 1, 1, 0);
        x.boat(0, 10, 10, 1, 1, 0);
        due("13: better to wait", x.plan(), 10);
        due("14: better to wait", x.ends(), 26);
    }

    private static void longPlans() {
        BoatLift x = new BoatLift();
        for (int b = 0; b < 6; b++) {
            x.boat(1, 100 * b + 100, 10, 1, 1, 0);
        }
        due("13: an empty ride and a wait ahead of each", x.plan(), 0);
        due("14: an empty ride and a wait ahead of each", x.ends(), 616);
        x = new BoatLift();
        law(x, "t999;g99;i99");
        x.ride(18803, 0);
        for (int b = 0; b < 6; b++) {
            x.boat(0, 0, 100, 1, 1, 0);
        }
        due("13: the longest waits", x.plan(), 6 * 20000 + 1197 * (1 + 3 + 5 + 7 + 9 + 11));
        due("14: the latest end", x.ends(), 20000 + 12 * 1197);
    }

    private static void waters() {
        BoatLift x = new BoatLift();
        int[][] rows = {{-1, -1, 29}, {-999, -1, 29}, {-1000, -1, 29}, {-1001, -2, 29}, {-10000, -10, 29}, {-10001, -11, 28},
            {0, 0, 30}, {999, 0, 30}, {1000, 1, 30}, {9999, 9, 30}, {10000, 10, 31}, {-300000, -300, 0}, {-300001, -301, -1}};
        for (int side = 0; side < 2; side++) {
            for (int[] row : rows) {
                x.flow(side, (int) (row[0] - x.stock(side)));
                due("15: stock", x.stock(side), (long) row[0]);
                due("16: level of " + row[0], x.level(side), row[1]);
                due("17: depth of " + row[0], x.depth(side), row[2]);
            }
        }
        for (int side : new int[] {-1, 2, MIN, MAX}) {
            due("15: stock(" + side + ")", x.stock(side), 0L);
            due("16: level(" + side + ")", x.level(side), 0);
            due("17: depth(" + side + ")", x.depth(side), 0);
        }
        BoatLift y = new BoatLift();
        y.flow(0, 5);
        due("15: the other one", y.stock(1), 0L);
        y.area(1, 1);
        y.flow(1, 15);
        due("16: its own area", y.level(1), 15);
        due("16: its own area", y.level(0), 0);
        due("17: its own depth", y.depth(1), 31);
        due("17: its own depth", y.depth(0), 30);
    }

    private static void look() {
        BoatLift x = new BoatLift();
        x.boat(1, 4, 20, 28, 50, 3);
        x.boat(0, 0, 100, 1, 1, 0);
        int[] want = {1, 4, 20, 28, 50, 3, 1, NONE, NONE};
        for (int what = 0; what < want.length; what++) {
            due("18: look(0, " + what + ")", x.look(0, what), want[what]);
        }
        for (int what : new int[] {-1, 9, MIN, MAX}) {
            due("18: look(0, " + what + ")", x.look(0, what), NONE);
        }
        for (int b : new int[] {-1, 2, 16, MIN, MAX}) {
            due("18: look(" + b + ", 0)", x.look(b, 0), NONE);
            due("18: look(" + b + ", 6)", x.look(b, 6), NONE);
        }
        x.flow(0, -1);
        due("18: too deep at one side", x.look(0, 6), 0);
        x.flow(0, 1);
        x.flow(1, -1);
        due("18: too deep at the other side", x.look(0, 6), 0);
        x.flow(1, 1);
        due("18: fit", x.look(0, 6), 1);
        law(x, "k3");
        due("18: more under the keel", x.look(0, 6), 0);
        law(x, "k2");
        x.trough(99);
        due("18: too long", x.look(1, 6), 0);
        x.trough(100);
        x.ride(0, 1);
        due("18: began at 0", x.look(1, 7), 0);
        due("18: waited 0", x.look(1, 8), 0);
        due("18: a carried one is fit still", x.look(1, 6), 1);
        due("18: its side is as told", x.look(1, 0), 0);
    }

    private static void count() {
        BoatLift x = new BoatLift();
        x.trough(150);
        x.area(0, 77);
        x.area(1, 88);
        law(x, "t20;g1;i2;k3;s4;r5");
        x.feed(0, 0, 0, 0, 0);
        x.boat(0, 0, 10, 1, 9, 0);
        x.boat(0, 2, 10, 1, 9, 0);
        x.boat(1, 2, 10, 1, 9, 0);
        x.ride(6, 2);
        x.renew(30);
        x.ride(40, 1);
        int[] want = {150, 0, 62, 1, 2, 3, 3, 20, 48, NONE, 20, 1, 2, 3, 4, 5, NONE, NONE, NONE, NONE, 77, 88, NONE};
        for (int what = 0; what < want.length; what++) {
            due("19: count(" + what + ")", x.count(what), want[what]);
        }
        for (int what : new int[] {-1, 9, 16, 19, 22, 100, MIN, MAX}) {
            due("19: count(" + what + ")", x.count(what), NONE);
        }
    }

    public static void main(String[] args) {
        newObject();
        feed();
        law();
        trough();
        area();
        flow();
        ice();
        boat();
        queue();
        fitting();
        ride();
        renew();
        plan();
        waters();
        look();
        count();
        System.out.println(asked + " answers, " + wrong + " not as due");
        if (wrong != 0) {
            System.exit(1);
        }
    }
}
