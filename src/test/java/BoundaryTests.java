import java.util.List;
import java.util.Objects;
import java.util.function.Consumer;
import java.util.function.Function;

/**
 * The boundary cases that the document names, sentence by sentence: each is asked on both sides, and behind a refused
 * call an object answers as one does that was never asked. No object is asked more than the document's 512 calls.
 */
public final class BoundaryTests {
    private static final int NONE = BoatLift.NONE;
    private static final int MIN = Integer.MIN_VALUE;
    private static final int MAX = Integer.MAX_VALUE;
    private static final String LETTERS = "tgiksr";
    private static final Consumer<BoatLift> NEW = x -> { };
    private static final List<Function<BoatLift, String>> LATER_CALLS = List.of(
        BoundaryTests::allThatIsTold, BoundaryTests::whatTheTapeHolds, BoundaryTests::roomThatIsLeft, BoundaryTests::ridesToCome);
    private static int wrong = 0;
    private static int asked = 0;

    // ---- how it is asked

    private static void due(String what, Object got, Object want) {
        asked++;
        if (!Objects.equals(got, want)) {
            wrong++;
            System.out.println(what + " answered " + got + ", due is " + want);
        }
    }

    private static BoatLift after(Consumer<BoatLift> story) {
        BoatLift x = new BoatLift();
        story.accept(x);
        return x;
    }

    /** Inside the boundary: the call is taken. Each has an object of its own. */
    private static BoatLift taken(String what, Consumer<BoatLift> story, Function<BoatLift, Object> call, Object want) {
        BoatLift x = after(story);
        due(what, call.apply(x), want);
        return x;
    }

    /** Outside of it: the call is refused, and whatever is called later answers as if it had never been. */
    private static void refused(String what, Consumer<BoatLift> story, Function<BoatLift, Object> call) {
        for (Function<BoatLift, String> later : LATER_CALLS) {
            BoatLift x = after(story);
            Object got = call.apply(x);
            due(what, got, got instanceof Boolean ? (Object) false : (Object) NONE);
            due(what + ", then", later.apply(x), later.apply(after(story)));
        }
    }

    private static String allThatIsTold(BoatLift x) {
        StringBuilder all = new StringBuilder();
        for (int what = 0; what <= 21; what++) {
            all.append(x.count(what)).append(' ');
        }
        for (int side = 0; side < 2; side++) {
            all.append("| ").append(x.stock(side)).append(' ').append(x.level(side)).append(' ').append(x.depth(side)).append(' ');
            for (int i = 0; i < 17; i++) {
                all.append(x.queue(side, 20000, i)).append(' ');
            }
        }
        for (int b = 0; b < 16; b++) {
            for (int what = 0; what <= 8; what++) {
                all.append(what == 0 ? "| " : "").append(x.look(b, what)).append(' ');
            }
        }
        return all.append("| ").append(x.fitting(20000)).append(' ').append(x.plan()).append(' ').append(x.ends()).toString();
    }

    private static String whatTheTapeHolds(BoatLift x) {
        return x.law(x.count(7)) + ": " + numbers(x);
    }

    /** What was refused must not have taken a place either. */
    private static String roomThatIsLeft(BoatLift x) {
        StringBuilder all = new StringBuilder();
        for (int i = 0; i < 4; i++) {
            all.append(x.feed(i, i, i, i, i)).append(' ');
        }
        for (int i = 0; i < 9; i++) {
            all.append(x.ice(19000, 19001)).append(' ');
        }
        for (int i = 0; i < 17; i++) {
            all.append(x.boat(0, 0, 1, 1, 1, 0)).append(' ');
        }
        return all.toString();
    }

    /** Ice and the seal show only in rides. */
    private static String ridesToCome(BoatLift x) {
        StringBuilder all = new StringBuilder();
        for (int i = 0; i < 60; i++) {
            int free = x.count(2);
            all.append(x.ride(free, x.fitting(free))).append(' ');
        }
        all.append(x.renew(x.count(2))).append(' ').append(x.ride(x.count(2), 0)).append(' ');
        return all.append(x.stock(0)).append(' ').append(x.stock(1)).append(' ').append(x.count(8)).toString();
    }

    private static void feedText(BoatLift x, String text) {
        String padded = text + " ".repeat((20 - text.length() % 20) % 20);
        for (int at = 0; at < padded.length(); at += 20) {
            x.feed(four(padded, at), four(padded, at + 4), four(padded, at + 8), four(padded, at + 12), four(padded, at + 16));
        }
    }

    private static int four(String s, int at) {
        return s.charAt(at) << 24 | s.charAt(at + 1) << 16 | s.charAt(at + 2) << 8 | s.charAt(at + 3);
    }

    private static int law(BoatLift x, String text) {
        feedText(x, text);
        return x.law(text.length());
    }

    private static String numbers(BoatLift x) {
        StringBuilder all = new StringBuilder();
        for (int what = 10; what <= 15; what++) {
            all.append(what == 10 ? "" : " ").append(x.count(what));
        }
        return all.toString();
    }

    /** Something of everything, so that a refused call has much that it could spoil. */
    private static void busy(BoatLift x) {
        law(x, "t7;g2;i9;k3;s4;r20");
        x.trough(90);
        x.area(0, 700);
        x.area(1, 900);
        x.flow(0, 12345);
        x.flow(1, 23456);
        x.ice(0, 5);
        x.ice(40, 80);
        x.boat(0, 2, 30, 10, 400, 1);
        x.boat(1, 6, 40, 12, 300, 2);
        x.boat(0, 3, 50, 14, 200, 0);
        x.boat(1, 60, 60, 16, 100, 3);
        x.boat(0, 70, 20, 40, 50, 0);
        x.ride(3, 1);
        feedText(x, "t0011;g12;i13;k1;s14");
    }

    // ---- Terms: MINUTES are 0 to 20000

    private static void minutesOfBoats() {
        taken("boat at minute 0", NEW, x -> x.boat(0, 0, 1, 1, 1, 0), 0);
        taken("boat at minute 20000", NEW, x -> x.boat(0, 20000, 1, 1, 1, 0), 0);
        for (int minute : new int[] {-1, 20001, MIN, MAX}) {
            refused("boat at minute " + minute, BoundaryTests::busy, x -> x.boat(0, minute, 1, 1, 1, 0));
        }
    }

    private static void minutesOfQueues() {
        Consumer<BoatLift> two = x -> {
            x.boat(0, 0, 1, 1, 1, 0);
            x.boat(0, 20000, 1, 1, 1, 1);
        };
        taken("queue at minute 0", two, x -> x.queue(0, 0, 0), 0);
        taken("queue at minute 0, of the last minute's", two, x -> x.queue(0, 0, 1), NONE);
        taken("queue at minute 19999", two, x -> x.queue(0, 19999, 1), NONE);
        taken("queue at minute 20000", two, x -> x.queue(0, 20000, 1), 1);
        taken("fitting at minute 0", two, x -> x.fitting(0), 1);
        taken("fitting at minute 19999", two, x -> x.fitting(19999), 1);
        taken("fitting at minute 20000", two, x -> x.fitting(20000), 2);
        for (int minute : new int[] {-1, 20001, MIN, MAX}) {
            refused("queue at minute " + minute, two, x -> x.queue(0, minute, 0));
            refused("fitting at minute " + minute, two, x -> x.fitting(minute));
        }
    }

    private static void minutesOfRides() {
        Consumer<BoatLift> quick = x -> law(x, "t1;g0;r1");
        taken("ride at minute 0", quick, x -> x.ride(0, 0), 1);
        taken("ride at minute 19999", quick, x -> x.ride(19999, 0), 20000);
        taken("renew at minute 0", quick, x -> x.renew(0), 1);
        taken("renew at minute 19999", quick, x -> x.renew(19999), 20000);
        for (int minute : new int[] {-1, 20000, 20001, MIN, MAX, MAX - 1}) {
            refused("ride at minute " + minute, quick, x -> x.ride(minute, 0));
            refused("renew at minute " + minute, quick, x -> x.renew(minute));
        }
    }

    private static void minutesOfIce() {
        taken("ice from 0", NEW, x -> x.ice(0, 1), true);
        taken("ice up to 20000", NEW, x -> x.ice(19999, 20000), true);
        taken("ice all the time", NEW, x -> x.ice(0, 20000), true);
        int[][] none = {{-1, 1}, {-1, 0}, {19999, 20001}, {20000, 20001}, {20000, 20000}, {0, 0}, {1, 0}, {7, 7}, {8, 7},
            {0, MAX}, {MIN, 5}, {MIN, MAX}, {MAX, MIN}, {5, MIN}, {MAX, 5}};
        for (int[] n : none) {
            refused("ice(" + n[0] + ", " + n[1] + ")", BoundaryTests::busy, x -> x.ice(n[0], n[1]));
        }
        taken("ice of one minute", NEW, x -> x.ice(7, 8), true);
    }

    // ---- Terms: SIDES are 0 LOWER, 1 UPPER

    private static void sides() {
        for (int side : new int[] {0, 1}) {
            taken("area(" + side + ", 1)", NEW, x -> x.area(side, 1), true);
            taken("flow(" + side + ", 1)", NEW, x -> x.flow(side, 1), true);
            taken("boat at side " + side, NEW, x -> x.boat(side, 0, 1, 1, 1, 0), 0);
            taken("queue of side " + side, x -> x.boat(side, 0, 1, 1, 1, 0), x -> x.queue(side, 0, 0), 0);
            taken("queue of the side beyond " + side, x -> x.boat(side, 0, 1, 1, 1, 0), x -> x.queue(1 - side, 0, 0), NONE);
            taken("stock(" + side + ")", BoundaryTests::busy, x -> x.stock(side), side == 0 ? 12345L + 200 : 23456L - 200);
            taken("level(" + side + ")", BoundaryTests::busy, x -> x.level(side), side == 0 ? 17 : 25);
            taken("depth(" + side + ")", BoundaryTests::busy, x -> x.depth(side), side == 0 ? 31 : 32);
        }
        for (int side : new int[] {-1, 2, 3, -2, MIN, MAX}) {
            refused("area(" + side + ", 1)", BoundaryTests::busy, x -> x.area(side, 1));
            refused("flow(" + side + ", 1)", BoundaryTests::busy, x -> x.flow(side, 1));
            refused("boat at side " + side, BoundaryTests::busy, x -> x.boat(side, 0, 1, 1, 1, 0));
            refused("queue of side " + side, BoundaryTests::busy, x -> x.queue(side, 20000, 0));
            taken("stock(" + side + ")", BoundaryTests::busy, x -> x.stock(side), 0L);
            taken("level(" + side + ")", BoundaryTests::busy, x -> x.level(side), 0);
            taken("depth(" + side + ")", BoundaryTests::busy, x -> x.depth(side), 0);
        }
    }

    // ---- Terms: the TROUGH's LENGTH (10 to 200; 100 at first), at a SIDE (0 at first), FREE from a MINUTE on (0)

    private static void troughs() {
        due("the trough's length at first", new BoatLift().count(0), 100);
        due("the trough's side at first", new BoatLift().count(1), 0);
        due("the trough is free at first from", new BoatLift().count(2), 0);
        for (int n : new int[] {10, 11, 199, 200}) {
            due("the length then", taken("trough(" + n + ")", NEW, x -> x.trough(n), true).count(0), n);
        }
        for (int n : new int[] {9, 201, 0, -1, -10, MIN, MAX}) {
            refused("trough(" + n + ")", BoundaryTests::busy, x -> x.trough(n));
        }
    }

    // ---- Terms: THE LAW

    private static void numbersOfTheLaw() {
        int[] first = {10, 3, 5, 2, 50, 30};
        int[] least = {1, 0, 0, 0, 1, 1};
        int[] most = {999, 99, 99, 20, 999, 999};
        for (int i = 0; i < 6; i++) {
            String letter = LETTERS.substring(i, i + 1);
            due(letter + " at first", new BoatLift().count(10 + i), first[i]);
            for (int n : new int[] {least[i], least[i] + 1, most[i] - 1, most[i]}) {
                for (String digits : new String[] {"" + n, String.format("%04d", n)}) {
                    BoatLift x = taken("law " + letter + digits, NEW, y -> law(y, letter + digits), 0);
                    due(letter + digits + " is", x.count(10 + i), n);
                }
            }
            for (int n : new int[] {least[i] - 1, most[i] + 1, 1000, 9999}) {
                if (n >= 0) {
                    faulty(letter + n, 401);
                    faulty("t5;" + letter + String.format("%04d", n) + ";g1", 404);
                }
            }
        }
    }

    /** A fault: it stays, and the tape is empty then. */
    private static void faulty(String text, int fault) {
        BoatLift x = after(y -> law(y, "t21;g22;i23;k19;s25;r26"));
        due("law '" + text + "'", law(x, text), fault);
        due("it stays behind '" + text + "'", numbers(x), "21 22 23 19 25 26");
        due("the tape behind '" + text + "'", x.count(7), 0);
    }

    private static void lawful(String text, String want) {
        BoatLift x = new BoatLift();
        due("law '" + text + "'", law(x, text), 0);
        due("the numbers of '" + text + "'", numbers(x), want);
        due("the tape behind '" + text + "'", x.count(7), 0);
    }

    private static void whatNoClauseTells() {
        lawful("t11", "11 3 5 2 50 30");
        lawful("g11", "10 11 5 2 50 30");
        lawful("i11", "10 3 11 2 50 30");
        lawful("k11", "10 3 5 11 50 30");
        lawful("s11", "10 3 5 2 11 30");
        lawful("r11", "10 3 5 2 50 11");
        BoatLift x = after(y -> law(y, "t21;g22;i23;k19;s25;r26"));
        due("a second law", law(x, "k1"), 0);
        due("what it does not tell is as at first, not as before", numbers(x), "10 3 5 1 50 30");
    }

    private static void theLaterOneCounts() {
        lawful("t5;t6", "6 3 5 2 50 30");
        lawful("t6;t5", "5 3 5 2 50 30");
        lawful("k9;t6;k20;t5;k0", "5 3 5 0 50 30");
        faulty("t5;t0", 404);
        faulty("t0;t5", 401);
    }

    /** Every sign, in each place where the document asks for a certain one. */
    private static void signs() {
        for (int sign = 0; sign < 256; sign++) {
            char c = (char) sign;
            boolean digit = c >= '0' && c <= '9';
            BoatLift x = new BoatLift();
            due("letter " + sign, law(x, c + "1"), LETTERS.indexOf(c) >= 0 ? 0 : 100);
            due("second letter " + sign, law(x, "t1;" + c + "1"), LETTERS.indexOf(c) >= 0 ? 0 : 103);
            due("first digit " + sign, law(x, "t" + c), digit ? c == '0' ? 401 : 0 : 201);
            due("second digit " + sign, law(x, "t1" + c), digit ? 0 : c == ';' ? 103 : 502);
            due("fifth digit " + sign, law(x, "t0001" + c), digit ? 305 : c == ';' ? 106 : 505);
            due("behind a clause " + sign, law(x, "t1" + c + "g2"), digit ? 503 : c == ';' ? 0 : 502);
        }
    }

    private static void faults() {
        // 1, the end, too
        faulty("", 100);
        faulty(";", 100);
        faulty("t1;", 103);
        faulty("t1;;g1", 103);
        faulty("t1;g2;", 106);
        lawful("t1;g2", "1 2 5 2 50 30");
        // 2, the end too
        faulty("t", 201);
        faulty("t;g1", 201);
        faulty("t1;g", 204);
        faulty("t-1", 201);
        faulty("t 1", 201);
        // 3: four digits are none too many
        lawful("t0009;g0009", "9 9 5 2 50 30");
        faulty("t00009", 305);
        faulty("t0009;g00009", 311);
        faulty("t99999", 305);
        faulty("t000000", 305);
        // 4, asked when its digits end: ahead of what stands behind them, behind a fifth digit
        faulty("t0x", 401);
        faulty("t0;x", 401);
        faulty("t0000", 401);
        faulty("t1;g0100;x", 404);
        // 5
        faulty("t1x", 502);
        faulty("t1 ", 502);
        faulty("t0010t1", 505);
        faulty("t1;g2,i3", 505);
        // the first from the left
        faulty("x;t0", 100);
        faulty("t;x", 201);
        faulty("t1,g0;x", 502);
        faulty("t1;g12345;x", 308);
    }

    private static void placesFarBehind() {
        String twenty = "t1;".repeat(20);
        BoatLift x = after(y -> feedText(y, twenty));
        due("sixty bytes, the end behind a ;", x.law(60), 160);
        x = after(y -> feedText(y, twenty));
        due("fifty-nine of them", x.law(59), 0);
        x = after(y -> feedText(y, twenty));
        due("fifty-eight of them", x.law(58), 258);
        x = after(y -> feedText(y, twenty.substring(0, 57) + "t12"));
        due("sixty bytes", x.law(60), 0);
        due("all sixty are read", x.count(10), 12);
        x = after(y -> feedText(y, twenty.substring(0, 57) + "t1x"));
        due("the last byte", x.law(60), 559);
        x = after(y -> feedText(y, twenty.substring(0, 57) + "t1x"));
        due("ahead of the last byte", x.law(59), 0);
    }

    // ---- Terms: AREA (1 to 10000; 1000 at first), STOCK, LEVEL and DEPTH rounded down

    private static void areas() {
        for (int side : new int[] {0, 1}) {
            due("area at first", new BoatLift().count(20 + side), 1000);
            for (int n : new int[] {1, 2, 9999, 10000}) {
                BoatLift x = taken("area(" + side + ", " + n + ")", y -> y.flow(side, 12345), y -> y.area(side, n), true);
                due("the area then", x.count(20 + side), n);
                due("the other one's", x.count(21 - side), 1000);
                due("its stock stays", x.stock(side), 12345L);
            }
            for (int n : new int[] {0, 10001, -1, MIN, MAX}) {
                refused("area(" + side + ", " + n + ")", BoundaryTests::busy, x -> x.area(side, n));
            }
        }
    }

    private static void flows() {
        for (int side : new int[] {0, 1}) {
            due("stock at first", new BoatLift().stock(side), 0L);
            for (int n : new int[] {-1000000, -999999, -1, 0, 1, 999999, 1000000}) {
                BoatLift x = taken("flow(" + side + ", " + n + ")", NEW, y -> y.flow(side, n), true);
                due("the stock then", x.stock(side), (long) n);
                due("the other one's", x.stock(1 - side), 0L);
            }
            for (int n : new int[] {-1000001, 1000001, MIN, MAX}) {
                refused("flow(" + side + ", " + n + ")", BoundaryTests::busy, x -> x.flow(side, n));
            }
        }
    }

    private static void rounding() {
        int[][] rows = {
            // area, stock, level, depth
            {1000, 0, 0, 30}, {1000, 999, 0, 30}, {1000, 1000, 1, 30}, {1000, -1, -1, 29}, {1000, -999, -1, 29}, {1000, -1000, -1, 29},
            {1000, -1001, -2, 29}, {1000, 9999, 9, 30}, {1000, 10000, 10, 31}, {1000, 19999, 19, 31}, {1000, 20000, 20, 32},
            {1000, -10000, -10, 29}, {1000, -10001, -11, 28}, {1000, -300000, -300, 0}, {1000, -300001, -301, -1},
            {1, 9, 9, 30}, {1, 10, 10, 31}, {1, -1, -1, 29}, {1, -10, -10, 29}, {1, -11, -11, 28}, {1, 1000000, 1000000, 100030}, {1, -1000000, -1000000, -99970},
            {10000, 9999, 0, 30}, {10000, 10000, 1, 30}, {10000, -1, -1, 29}, {10000, -10000, -1, 29}, {10000, -10001, -2, 29},
            {10000, 99999, 9, 30}, {10000, 100000, 10, 31}, {7, 69, 9, 30}, {7, 70, 10, 31}, {7, -70, -10, 29}, {7, -71, -11, 28}};
        for (int[] row : rows) {
            for (int side : new int[] {0, 1}) {
                BoatLift x = new BoatLift();
                x.area(side, row[0]);
                x.flow(side, row[1]);
                String what = " of stock " + row[1] + ", area " + row[0];
                due("level" + what, x.level(side), row[2]);
                due("depth" + what, x.depth(side), row[3]);
                due("the other's level", x.level(1 - side), 0);
                due("the other's depth", x.depth(1 - side), 30);
            }
        }
    }

    /** As much as an object's calls can bring: nothing wraps around. */
    private static void mostWater() {
        for (int sign : new int[] {-1, 1}) {
            BoatLift x = new BoatLift();
            x.area(0, 1);
            for (int i = 0; i < 508; i++) {
                x.flow(0, sign * 1000000);
            }
            due("the most stock", x.stock(0), sign * 508000000L);
            due("the most level", x.level(0), sign * 508000000);
            due("the most depth", x.depth(0), 30 + sign * 50800000);
        }
    }

    // ---- Terms: BOATS

    private static void numbersOfBoats() {
        int[] least = {0, 0, 1, 1, 1, 0};
        int[] most = {1, 20000, 100, 40, 2000, 3};
        int[] good = {1, 50, 60, 20, 700, 2};
        for (int i = 0; i < 6; i++) {
            for (int n : new int[] {least[i], least[i] + 1, most[i] - 1, most[i]}) {
                int[] a = withOne(good, i, n);
                BoatLift x = taken("boat, number " + i + " is " + n, NEW, y -> boat(y, a), 0);
                for (int what = 0; what < 6; what++) {
                    due("look(0, " + what + ")", x.look(0, what), a[what]);
                }
            }
            for (int n : new int[] {least[i] - 1, most[i] + 1, MIN, MAX}) {
                int[] a = withOne(good, i, n);
                refused("boat, number " + i + " is " + n, BoundaryTests::busy, x -> boat(x, a));
            }
        }
    }

    private static int[] withOne(int[] all, int i, int n) {
        int[] a = all.clone();
        a[i] = n;
        return a;
    }

    private static int boat(BoatLift x, int[] a) {
        return x.boat(a[0], a[1], a[2], a[3], a[4], a[5]);
    }

    private static void tellBoats(BoatLift x, int n) {
        for (int b = 0; b < n; b++) {
            x.boat(b % 2, b, 10, 1, 1, 0);
        }
    }

    private static void sixteenBoats() {
        taken("the first boat", NEW, x -> x.boat(0, 0, 1, 1, 1, 0), 0);
        BoatLift x = taken("the sixteenth boat", y -> tellBoats(y, 15), y -> y.boat(1, 9, 8, 7, 6, 3), 15);
        due("so many boats", x.count(5), 16);
        due("the last one's weight", x.look(15, 4), 6);
        refused("the seventeenth boat", y -> tellBoats(y, 16), y -> y.boat(1, 9, 8, 7, 6, 3));
        refused("a seventeenth that can't be", y -> tellBoats(y, 16), y -> y.boat(2, 9, 8, 7, 6, 3));
        refused("a seventeenth, though one is carried", y -> {
            tellBoats(y, 16);
            y.ride(0, 1);
        }, y -> y.boat(1, 9, 8, 7, 6, 3));
    }

    // ---- Terms: FIT

    private static void lengthsThatFit() {
        for (int trough : new int[] {10, 50, 99}) {
            taken("as long as the trough", x -> x.trough(trough), x -> fitOf(x, trough, 1), "1 0 1 0");
            taken("longer by one", x -> x.trough(trough), x -> fitOf(x, trough + 1, 1), "0 -1 0 -1");
        }
        taken("the longest boat at first", NEW, x -> fitOf(x, 100, 1), "1 0 1 0");
        taken("the longest boat, the longest trough", x -> x.trough(200), x -> fitOf(x, 100, 1), "1 0 1 0");
    }

    /** Whether it is fit, whether it is queued, how many are fitting, and what it waits by the plan. */
    private static String fitOf(BoatLift x, int length, int draught) {
        int b = x.boat(0, 0, length, draught, 1, 0);
        return x.look(b, 6) + " " + x.queue(0, 0, 0) + " " + x.fitting(0) + " " + (x.ends() == NONE ? NONE : x.plan());
    }

    private static void draughtsThatFit() {
        taken("28 and 2 of 30", NEW, x -> fitOf(x, 1, 28), "1 0 1 0");
        taken("29 and 2 of 30", NEW, x -> fitOf(x, 1, 29), "0 -1 0 -1");
        taken("30 and 0 of 30", x -> law(x, "k0"), x -> fitOf(x, 1, 30), "1 0 1 0");
        taken("31 and 0 of 30", x -> law(x, "k0"), x -> fitOf(x, 1, 31), "0 -1 0 -1");
        taken("10 and 20 of 30", x -> law(x, "k20"), x -> fitOf(x, 1, 10), "1 0 1 0");
        taken("11 and 20 of 30", x -> law(x, "k20"), x -> fitOf(x, 1, 11), "0 -1 0 -1");
        for (int side : new int[] {0, 1}) {
            Consumer<BoatLift> lower = x -> x.flow(side, -1);
            taken("27 and 2 of 29 at side " + side, lower, x -> fitOf(x, 1, 27), "1 0 1 0");
            taken("28 and 2 of 29 at side " + side, lower, x -> fitOf(x, 1, 28), "0 -1 0 -1");
            Consumer<BoatLift> higher = x -> x.flow(side, 1000000);
            taken("28 and 2 of 30, much at side " + side, higher, x -> fitOf(x, 1, 28), "1 0 1 0");
            taken("29 and 2 of 30, much at side " + side, higher, x -> fitOf(x, 1, 29), "0 -1 0 -1");
            Consumer<BoatLift> dry = x -> {
                x.flow(side, -300000);
                law(x, "k0");
            };
            taken("1 and 0 of 0 at side " + side, dry, x -> fitOf(x, 1, 1), "0 -1 0 -1");
            Consumer<BoatLift> shallow = x -> {
                x.flow(side, -290000);
                law(x, "k0");
            };
            taken("1 and 0 of 1 at side " + side, shallow, x -> fitOf(x, 1, 1), "1 0 1 0");
        }
        Consumer<BoatLift> deep = x -> {
            x.flow(0, 120000);
            x.flow(1, 120000);
        };
        taken("40 and 2 of 42", deep, x -> fitOf(x, 1, 40), "1 0 1 0");
        taken("40 and 2 of 42 and 41", deep.andThen(x -> x.flow(1, -1)), x -> fitOf(x, 1, 40), "0 -1 0 -1");
    }

    // ---- Terms: THE QUEUE, FITTING

    private static String queueOf(BoatLift x, int side, int minute) {
        StringBuilder all = new StringBuilder();
        for (int i = 0; i < 17 && x.queue(side, minute, i) != NONE; i++) {
            all.append(i == 0 ? "" : " ").append(x.queue(side, minute, i));
        }
        return all.toString();
    }

    private static void orderOfQueues() {
        Consumer<BoatLift> likes = x -> {
            x.boat(0, 5, 1, 1, 1, 1);
            x.boat(0, 5, 9, 9, 9, 1);
        };
        taken("like ones by numbers", likes, x -> queueOf(x, 0, 9), "0 1");
        taken("the minute ahead of the number", likes.andThen(x -> x.boat(0, 4, 1, 1, 1, 1)), x -> queueOf(x, 0, 9), "2 0 1");
        taken("a later minute", likes.andThen(x -> x.boat(0, 6, 1, 1, 1, 1)), x -> queueOf(x, 0, 9), "0 1 2");
        taken("the rank ahead of the minute", likes.andThen(x -> x.boat(0, 9, 1, 1, 1, 0)), x -> queueOf(x, 0, 9), "2 0 1");
        taken("a higher rank", likes.andThen(x -> x.boat(0, 0, 1, 1, 1, 2)), x -> queueOf(x, 0, 9), "0 1 2");
        taken("all ranks", x -> {
            for (int rank = 3; rank >= 0; rank--) {
                x.boat(1, 3 - rank, 1, 1, 1, rank);
            }
        }, x -> queueOf(x, 1, 3), "3 2 1 0");
    }

    private static void whoIsQueued() {
        Consumer<BoatLift> one = x -> x.boat(0, 5, 10, 28, 1, 0);
        taken("there by then", one, x -> queueOf(x, 0, 5), "0");
        taken("not yet there", one, x -> queueOf(x, 0, 4), "");
        taken("carried", one.andThen(x -> x.ride(5, 1)), x -> queueOf(x, 0, 9) + "," + queueOf(x, 1, 9), ",");
        taken("a ride without it", one.andThen(x -> x.ride(5, 0)), x -> queueOf(x, 0, 9) + "," + queueOf(x, 1, 9), "0,");
        taken("no more fit", one.andThen(x -> x.flow(0, -1)), x -> queueOf(x, 0, 5), "");
        taken("fit again", one.andThen(x -> x.flow(0, -1)).andThen(x -> x.flow(0, 1)), x -> queueOf(x, 0, 5), "0");
        Consumer<BoatLift> full = x -> {
            for (int b = 0; b < 16; b++) {
                x.boat(0, 0, 1, 1, 1, 0);
            }
        };
        taken("the first of a full queue", full, x -> x.queue(0, 0, 0), 0);
        taken("the last of a full queue", full, x -> x.queue(0, 0, 15), 15);
        for (int i : new int[] {16, -1, 17, MIN, MAX}) {
            refused("queue's " + i + "-th of sixteen", full, x -> x.queue(0, 0, i));
        }
        refused("the first of an empty queue", NEW, x -> x.queue(0, 20000, 0));
    }

    private static void lengthsTogether() {
        for (int trough : new int[] {10, 100, 200}) {
            Consumer<BoatLift> two = x -> {
                x.trough(trough);
                x.boat(0, 0, trough / 2, 1, 1, 0);
                x.boat(0, 0, trough / 2, 1, 1, 1);
            };
            taken("together as long as " + trough, two, x -> x.fitting(0), 2);
            taken("together longer by one than " + trough, two.andThen(x -> x.trough(trough - 1)), x -> x.fitting(0), trough == 10 ? 2 : 1);
            taken("a third one of length 1", two.andThen(x -> x.boat(0, 0, 1, 1, 1, 2)), x -> x.fitting(0), 2);
            taken("a third one ahead", two.andThen(x -> x.boat(0, 0, 1, 1, 1, 0)), x -> x.fitting(0), 2);
        }
        taken("none", NEW, x -> x.fitting(20000), 0);
        Consumer<BoatLift> gap = x -> {
            x.boat(0, 0, 60, 1, 1, 0);
            x.boat(0, 0, 41, 1, 1, 1);
            x.boat(0, 0, 40, 1, 1, 2);
        };
        taken("first ones alone, though a later one would go in", gap, x -> x.fitting(0), 1);
        Consumer<BoatLift> many = x -> {
            x.trough(16);
            for (int b = 0; b < 16; b++) {
                x.boat(0, 0, 1, 1, 1, 0);
            }
        };
        taken("sixteen of 1 in 16", many, x -> x.fitting(0), 16);
        taken("sixteen of 1 in 15", many.andThen(x -> x.trough(15)), x -> x.fitting(0), 15);
        taken("all sixteen ride", many, x -> x.ride(0, 16), 16);
        taken("at the trough's side alone", many.andThen(x -> x.ride(0, 0)), x -> x.fitting(0), 0);
    }

    // ---- part 2: a RIDE

    private static void freeTrough() {
        Consumer<BoatLift> one = x -> x.ride(4, 0);
        taken("free from", one, x -> x.count(2), 20);
        taken("ride when it is free", one, x -> x.ride(20, 0), 36);
        taken("ride later", one, x -> x.ride(21, 0), 37);
        refused("ride a minute ahead", one, x -> x.ride(19, 0));
        refused("ride at its own minute again", one, x -> x.ride(4, 0));
        taken("renew when it is free", one, x -> x.renew(20), 50);
        refused("renew a minute ahead", one, x -> x.renew(19));
        Consumer<BoatLift> renewed = x -> x.renew(4);
        taken("ride when the seal is renewed", renewed, x -> x.ride(34, 0), 50);
        refused("ride a minute ahead of that", renewed, x -> x.ride(33, 0));
        taken("renew again", renewed, x -> x.renew(34), 64);
        refused("renew again a minute ahead", renewed, x -> x.renew(33));
    }

    private static void howManyRide() {
        Consumer<BoatLift> three = x -> {
            x.boat(0, 0, 50, 1, 1, 0);
            x.boat(0, 1, 50, 1, 1, 0);
            x.boat(0, 1, 50, 1, 1, 0);
        };
        due("none ride", taken("ride(1, 0)", three, x -> x.ride(1, 0), 17).count(6), 0);
        due("one rides", taken("ride(1, 1)", three, x -> x.ride(1, 1), 17).count(6), 1);
        due("two ride", taken("ride(1, 2)", three, x -> x.ride(1, 2), 17).count(6), 2);
        due("the one rides", taken("ride(0, 1)", three, x -> x.ride(0, 1), 16).count(6), 1);
        refused("more than fitting, by length", three, x -> x.ride(1, 3));
        refused("more than fitting, by minute", three, x -> x.ride(0, 2));
        for (int n : new int[] {-1, 4, 16, 17, MIN, MAX}) {
            refused("ride(1, " + n + ")", three, x -> x.ride(1, n));
        }
        taken("none of none", NEW, x -> x.ride(0, 0), 16);
        refused("one of none", NEW, x -> x.ride(0, 1));
        Consumer<BoatLift> yonder = x -> x.boat(1, 0, 1, 1, 1, 0);
        refused("one of the other side", yonder, x -> x.ride(0, 1));
        taken("one of this side", yonder.andThen(x -> x.ride(0, 0)), x -> x.ride(16, 1), 32);
    }

    private static void howLongRidesLast() {
        taken("the least", x -> law(x, "t1;g0;i0"), x -> x.ride(0, 0), 1);
        taken("the most", x -> law(x, "t999;g99;i99"), x -> x.ride(0, 0), 1197);
        Consumer<BoatLift> cold = x -> x.ice(0, 20000);
        taken("the most in ice", cold.andThen(x -> law(x, "t999;g99;i99")), x -> x.ride(0, 0), 1296);
        taken("the least in ice", cold.andThen(x -> law(x, "t1;g0;i0")), x -> x.ride(0, 0), 1);
        taken("at first in ice", cold, x -> x.ride(0, 0), 21);
    }

    private static void endsOfRides() {
        taken("an end at 20000", NEW, x -> x.ride(19984, 0), 20000);
        refused("an end at 20001", NEW, x -> x.ride(19985, 0));
        Consumer<BoatLift> cold = x -> x.ice(19979, 19981);
        taken("an end at 20000 in ice", cold, x -> x.ride(19979, 0), 20000);
        refused("an end at 20001 in ice", cold, x -> x.ride(19980, 0));
        taken("behind the ice", cold, x -> x.ride(19981, 0), 19997);
        Consumer<BoatLift> slow = x -> law(x, "t999;g99;s999;r999");
        taken("the longest ride, an end at 20000", slow, x -> x.ride(18803, 0), 20000);
        refused("the longest ride, an end at 20001", slow, x -> x.ride(18804, 0));
        Consumer<BoatLift> over = x -> x.ride(19984, 0);
        refused("no ride behind the end", over, x -> x.ride(20000, 0));
        refused("none renewed behind the end", over, x -> x.renew(20000));
        Consumer<BoatLift> boats = x -> {
            x.boat(0, 19985, 10, 1, 1, 0);
            x.boat(0, 19984, 10, 1, 1, 0);
        };
        taken("the last that can ride", boats, x -> x.ride(19984, 1), 20000);
        refused("one that comes too late", boats, x -> x.ride(19985, 1));
    }

    private static void edgesOfIce() {
        Consumer<BoatLift> cold = x -> x.ice(10, 20);
        taken("ahead of ice", cold, x -> x.ride(9, 0), 25);
        taken("ice's first minute", cold, x -> x.ride(10, 0), 31);
        taken("ice's last minute", cold, x -> x.ride(19, 0), 40);
        taken("the minute not counted", cold, x -> x.ride(20, 0), 36);
        Consumer<BoatLift> one = x -> x.ice(10, 11);
        taken("ahead of one minute of ice", one, x -> x.ride(9, 0), 25);
        taken("one minute of ice", one, x -> x.ride(10, 0), 31);
        taken("behind one minute of ice", one, x -> x.ride(11, 0), 27);
        Consumer<BoatLift> twice = cold.andThen(x -> x.ice(15, 30)).andThen(x -> x.ice(10, 20));
        taken("in two ices, i but once", twice, x -> x.ride(15, 0), 36);
        taken("in the second", twice, x -> x.ride(29, 0), 50);
        taken("behind both", twice, x -> x.ride(30, 0), 46);
        taken("it ends in ice, but begins ahead", x -> x.ice(1, 20000), x -> x.ride(0, 0), 16);
    }

    private static void tellIce(BoatLift x, int n) {
        for (int i = 0; i < n; i++) {
            x.ice(100 * i + 100, 100 * i + 101);
        }
    }

    private static void eightIces() {
        taken("the eighth", x -> tellIce(x, 7), x -> x.ice(5000, 5001), true);
        refused("the ninth", x -> tellIce(x, 8), x -> x.ice(5000, 5001));
        refused("the ninth, like one that was told", x -> tellIce(x, 8), x -> x.ice(100, 101));
        refused("the ninth, at once", x -> tellIce(x, 8), x -> x.ice(0, 20000));
        BoatLift x = after(y -> tellIce(y, 8));
        x.ice(900, 901);
        for (int i = 0; i < 8; i++) {
            due("ice " + i + " is there", x.ride(100 * i + 100, 0), 100 * i + 121);
        }
        due("the ninth isn't", x.ride(900, 0), 916);
        Consumer<BoatLift> wrongOnes = y -> {
            for (int i = 0; i < 9; i++) {
                y.ice(5, 5);
            }
        };
        taken("those refused don't count among eight", wrongOnes.andThen(y -> tellIce(y, 7)), y -> y.ice(5000, 5001), true);
    }

    private static void waits() {
        Consumer<BoatLift> two = x -> {
            x.boat(0, 5, 10, 1, 1, 0);
            x.boat(0, 7, 10, 1, 1, 0);
        };
        taken("not carried yet", two, x -> x.look(0, 7) + " " + x.look(0, 8), "-1 -1");
        BoatLift x = taken("ride", two, y -> y.ride(7, 2), 23);
        due("began", x.look(0, 7) + " " + x.look(1, 7), "7 7");
        due("waited, one of them not at all", x.look(0, 8) + " " + x.look(1, 8), "2 0");
        due("together", x.count(8), 2);
        Consumer<BoatLift> all = y -> {
            law(y, "t1;g0");
            for (int b = 0; b < 16; b++) {
                y.boat(0, 0, 1, 1, 1, 0);
            }
        };
        x = taken("the longest waits", all, y -> y.ride(19999, 16), 20000);
        due("waited", x.look(15, 8), 19999);
        due("together", x.count(8), 16 * 19999);
    }

    // ---- part 2: water, the SEAL

    private static String stocks(BoatLift x) {
        return x.stock(0) + " " + x.stock(1);
    }

    private static void waterOfRides() {
        Consumer<BoatLift> both = x -> {
            x.boat(0, 0, 10, 1, 2000, 0);
            x.boat(0, 0, 10, 1, 1, 0);
            x.boat(1, 0, 10, 1, 1500, 0);
        };
        taken("none ride: the first leaks nothing", both.andThen(x -> x.ride(0, 0)), BoundaryTests::stocks, "0 0");
        taken("one goes up", both.andThen(x -> x.ride(0, 1)), BoundaryTests::stocks, "2000 -2000");
        Consumer<BoatLift> up = both.andThen(x -> x.ride(0, 2));
        taken("two go up", up, BoundaryTests::stocks, "2001 -2001");
        taken("one goes down, and one tonne leaks", up.andThen(x -> x.ride(16, 1)), BoundaryTests::stocks, "502 -502");
        taken("none go down, and one tonne leaks", up.andThen(x -> x.ride(16, 0)), BoundaryTests::stocks, "2002 -2002");
        taken("renewed, none leaks", up.andThen(x -> x.renew(16)).andThen(x -> x.ride(46, 0)), BoundaryTests::stocks, "2001 -2001");
        Consumer<BoatLift> deep = x -> {
            x.boat(0, 0, 10, 28, 1, 0);
            x.boat(0, 0, 10, 28, 1, 0);
            x.ride(0, 1);
        };
        taken("one tonne less is too shallow for the next", deep, x -> x.look(1, 6) + " " + queueOf(x, 0, 9), "0 ");
    }

    private static Consumer<BoatLift> rides(int n) {
        return x -> {
            for (int i = 0; i < n; i++) {
                x.ride(x.count(2), 0);
            }
        };
    }

    private static void wornSeals() {
        taken("the fiftieth ride", rides(49), x -> x.ride(x.count(2), 0), 800);
        refused("the fifty-first", rides(50), x -> x.ride(x.count(2), 0));
        taken("leaks of fifty", rides(50), BoundaryTests::stocks, "1225 -1225");
        Consumer<BoatLift> once = x -> law(x, "s1");
        taken("the one ride", once, x -> x.ride(0, 0), 16);
        refused("a second one", once.andThen(rides(1)), x -> x.ride(16, 0));
        taken("worn, and renewed", once.andThen(rides(1)), x -> x.renew(16), 46);
        taken("renewed, it bears one", once.andThen(rides(1)).andThen(x -> x.renew(16)), x -> x.ride(46, 0), 62);
        refused("renewed, not two", once.andThen(rides(1)).andThen(x -> x.renew(16)).andThen(rides(1)), x -> x.ride(62, 0));
        Consumer<BoatLift> three = rides(3);
        refused("a law by which it is worn already", three.andThen(x -> law(x, "s2")), x -> x.ride(48, 0));
        refused("a law by which it is just worn", three.andThen(x -> law(x, "s3")), x -> x.ride(48, 0));
        taken("a law by which it is not yet worn", three.andThen(x -> law(x, "s4")), x -> x.ride(48, 0), 64);
    }

    /** As many rides as an object's calls allow. */
    private static void mostRides() {
        BoatLift x = after(y -> law(y, "t1;g0;s500"));
        for (int minute = 0; minute < 499; minute++) {
            x.ride(minute, 0);
        }
        due("the five hundredth ride", x.ride(499, 0), 500);
        due("one more", x.ride(500, 0), NONE);
        due("rides of the seal", x.count(3), 500);
        due("their leaks", stocks(x), "124750 -124750");
    }

    private static void renewals() {
        taken("at once", NEW, x -> x.renew(0), 30);
        taken("the least", x -> law(x, "r1"), x -> x.renew(0), 1);
        taken("the most", x -> law(x, "r999"), x -> x.renew(0), 999);
        taken("free at 20000", NEW, x -> x.renew(19970), 20000);
        refused("free at 20001", NEW, x -> x.renew(19971));
        taken("the most, free at 20000", x -> law(x, "r999"), x -> x.renew(19001), 20000);
        refused("the most, free at 20001", x -> law(x, "r999"), x -> x.renew(19002));
        taken("no more in ice", x -> x.ice(0, 20000), x -> x.renew(0), 30);
        BoatLift x = taken("behind rides", rides(3), y -> y.renew(48), 78);
        due("the seal had no rides", x.count(3), 0);
        due("rides ever", x.count(4), 3);
        due("the side stays", x.count(1), 1);
        due("so does the water", stocks(x), "3 -3");
    }

    // ---- part 3: THE PLAN

    private static String planOf(BoatLift x) {
        return x.plan() + " " + x.ends();
    }

    private static void tooMany() {
        Consumer<BoatLift> six = x -> {
            for (int b = 0; b < 6; b++) {
                x.boat(0, 0, 10, 1, 1, 0);
            }
        };
        Consumer<BoatLift> seven = six.andThen(x -> x.boat(0, 0, 10, 28, 1, 1));
        taken("no boats", NEW, BoundaryTests::planOf, "0 -1");
        taken("one", x -> x.boat(0, 0, 10, 1, 1, 0), BoundaryTests::planOf, "0 16");
        taken("six", six, BoundaryTests::planOf, "0 16");
        taken("seven", seven, BoundaryTests::planOf, "-2 -2");
        taken("seven, one not fit", seven.andThen(x -> x.flow(0, -1)), BoundaryTests::planOf, "0 16");
        taken("seven, one carried, one not fit by that", seven.andThen(x -> x.ride(0, 1)), BoundaryTests::planOf, "160 48");
        taken("seven, one carried", seven.andThen(x -> x.flow(1, 1)).andThen(x -> x.ride(0, 1)), BoundaryTests::planOf, "192 48");
        taken("seven, none carried by a ride", seven.andThen(x -> x.ride(0, 0)), BoundaryTests::planOf, "-2 -2");
        taken("seven, a later one too", six.andThen(x -> x.boat(1, 20000, 10, 1, 1, 0)), BoundaryTests::planOf, "-2 -2");
        taken("sixteen", x -> tellBoats(x, 16), BoundaryTests::planOf, "-2 -2");
        taken("all carried", six.andThen(x -> x.ride(0, 6)), BoundaryTests::planOf, "0 -1");
        taken("none fit", six.andThen(x -> x.flow(1, -300000)), BoundaryTests::planOf, "0 -1");
        taken("sixteen, none fit", ((Consumer<BoatLift>) x -> tellBoats(x, 16)).andThen(x -> x.flow(1, -300000)), BoundaryTests::planOf, "0 -1");
    }

    private static void planChangesNothing() {
        for (Function<BoatLift, String> later : LATER_CALLS) {
            BoatLift x = after(BoundaryTests::busy);
            due("a plan", planOf(x), planOf(after(BoundaryTests::busy)));
            due("behind a plan", later.apply(x), later.apply(after(BoundaryTests::busy)));
        }
    }

    /** Two boats at one side: take the first at once and come back for the second, or wait for it. */
    private static Consumer<BoatLift> twoAt(int first, int second) {
        return x -> {
            x.boat(0, first, 10, 1, 1, 0);
            x.boat(0, second, 10, 1, 1, 0);
        };
    }

    private static void leastAndEarliest() {
        taken("to wait is less", twoAt(0, 15), BoundaryTests::planOf, "15 31");
        taken("it is alike: the earlier end", twoAt(0, 16), BoundaryTests::planOf, "16 32");
        taken("to come back is less, though later", twoAt(0, 17), BoundaryTests::planOf, "15 48");
        taken("back just in time", twoAt(0, 32), BoundaryTests::planOf, "0 48");
        taken("back a minute late", twoAt(0, 31), BoundaryTests::planOf, "1 48");
        taken("back a minute early", twoAt(0, 33), BoundaryTests::planOf, "0 49");
        taken("both at once", twoAt(0, 0), BoundaryTests::planOf, "0 16");
    }

    private static void whenPlansBegin() {
        taken("free ahead of it", x -> x.boat(0, 5, 10, 1, 1, 0), BoundaryTests::planOf, "0 21");
        Consumer<BoatLift> busyTill32 = rides(2);
        taken("free just then", busyTill32.andThen(x -> x.boat(0, 32, 10, 1, 1, 0)), BoundaryTests::planOf, "0 48");
        taken("free a minute behind", busyTill32.andThen(x -> x.boat(0, 31, 10, 1, 1, 0)), BoundaryTests::planOf, "1 48");
        taken("free a minute ahead", busyTill32.andThen(x -> x.boat(0, 33, 10, 1, 1, 0)), BoundaryTests::planOf, "0 49");
        taken("of the last minute", x -> x.boat(0, 20000, 10, 1, 1, 0), BoundaryTests::planOf, "0 20016");
        taken("yonder, of the last minute", x -> x.boat(1, 20000, 10, 1, 1, 0), BoundaryTests::planOf, "0 20016");
        taken("three that come one by one: wait twice", twoAt(0, 5).andThen(x -> x.boat(0, 9, 10, 1, 1, 0)), BoundaryTests::planOf, "13 25");
        Consumer<BoatLift> laterRank = x -> {
            x.boat(0, 100, 10, 1, 1, 0);
            x.boat(0, 5, 10, 1, 1, 1);
        };
        taken("the next to come, though another one is ahead of it by rank", laterRank, BoundaryTests::planOf, "0 116");
        taken("three, the third one late: wait once", twoAt(0, 5).andThen(x -> x.boat(0, 37, 10, 1, 1, 0)), BoundaryTests::planOf, "5 53");
    }

    /** At minute 0 there is ice and one boat at each side: to wait till 1 is better by far, if there is something to wait for. */
    private static void whomPlansWaitFor() {
        Consumer<BoatLift> cold = x -> {
            law(x, "i99");
            x.ice(0, 1);
            x.boat(0, 0, 10, 1, 1, 0);
            x.boat(1, 0, 10, 1, 1, 0);
        };
        taken("nothing to wait for", cold, BoundaryTests::planOf, "115 131");
        taken("one of this side", cold.andThen(x -> x.boat(0, 1, 10, 1, 1, 0)), BoundaryTests::planOf, "18 33");
        taken("one of the other side", cold.andThen(x -> x.boat(1, 1, 10, 1, 1, 0)), BoundaryTests::planOf, "34 33");
        taken("one that is not fit", cold.andThen(x -> x.boat(0, 1, 10, 29, 1, 0)), BoundaryTests::planOf, "115 131");
        taken("one that is there already", cold.andThen(x -> x.boat(0, 0, 10, 1, 1, 0)), BoundaryTests::planOf, "115 131");
        taken("one that comes when there is ice still", cold.andThen(x -> x.ice(1, 2)).andThen(x -> x.boat(0, 1, 10, 1, 1, 0)), BoundaryTests::planOf, "117 132");
    }

    private static void emptyRidesOfPlans() {
        Consumer<BoatLift> yonder = x -> x.boat(1, 0, 10, 1, 1, 0);
        taken("the first one may be empty", yonder, BoundaryTests::planOf, "16 32");
        taken("though the lift's last one was", yonder.andThen(rides(2)), BoundaryTests::planOf, "48 64");
        Consumer<BoatLift> longOnes = x -> {
            x.boat(0, 0, 60, 1, 1, 0);
            x.boat(0, 0, 60, 1, 1, 0);
        };
        taken("one behind a ride that took some", longOnes, BoundaryTests::planOf, "32 48");
        Consumer<BoatLift> cold = x -> {
            law(x, "i99");
            x.ice(31, 32);
            x.boat(0, 31, 10, 1, 1, 0);
            x.boat(1, 48, 10, 1, 1, 0);
        };
        taken("not two of them, though that passed the ice by", cold, BoundaryTests::planOf, "33 80");
        taken("the first of the two takes some", cold.andThen(x -> x.boat(0, 0, 10, 1, 1, 0)), BoundaryTests::planOf, "1 64");
    }

    private static void whatPlansTake() {
        Consumer<BoatLift> two = x -> {
            x.boat(0, 0, 50, 1, 1, 0);
            x.boat(0, 0, 50, 1, 1, 0);
        };
        taken("together as long as the trough", two, BoundaryTests::planOf, "0 16");
        taken("longer by one", two.andThen(x -> x.trough(99)), BoundaryTests::planOf, "32 48");
        Consumer<BoatLift> six = x -> {
            x.trough(60);
            for (int b = 0; b < 6; b++) {
                x.boat(1, 16, 10, 1, 1, 0);
            }
        };
        taken("six, as long as the trough", six, BoundaryTests::planOf, "0 32");
        taken("six, longer by one", six.andThen(x -> x.trough(59)), BoundaryTests::planOf, "32 64");
        Consumer<BoatLift> worn = x -> law(x, "s1");
        taken("seals are not asked", worn.andThen(rides(1)).andThen(x -> x.boat(1, 16, 10, 1, 1, 0)), BoundaryTests::planOf, "0 32");
        Consumer<BoatLift> low = x -> {
            x.boat(0, 0, 60, 28, 2000, 0);
            x.boat(0, 0, 60, 28, 2000, 0);
        };
        taken("depths as they are", low, BoundaryTests::planOf, "32 48");
        taken("depths as they are behind a ride", low.andThen(x -> x.ride(0, 1)), BoundaryTests::planOf, "0 -1");
    }

    private static void longestPlans() {
        Consumer<BoatLift> slow = x -> {
            law(x, "t999;g99;i99");
            x.ride(18803, 0);
            for (int b = 0; b < 6; b++) {
                x.boat(0, 0, 100, 1, 1, 0);
            }
        };
        taken("the longest waits, the latest end", slow, BoundaryTests::planOf, 6 * 20000 + 1197 * 36 + " " + (20000 + 12 * 1197));
        Consumer<BoatLift> apart = x -> {
            for (int b = 0; b < 6; b++) {
                x.boat(1, 3000 * b + 5000, 100, 1, 1, 0);
            }
        };
        taken("an empty ride and a wait ahead of each", apart, BoundaryTests::planOf, "0 20016");
    }

    // ---- the promises' own bounds

    private static void sixtyBytes() {
        String sixty = "t0011;g0012;i0013;k0014;s0015;r0016;t0017;g0018;i0019;k00020";
        due("the text is full", sixty.length(), 60);
        taken("the first feed", NEW, x -> x.feed(0, 0, 0, 0, 0), 20);
        taken("the second", x -> feedText(x, sixty.substring(0, 20)), x -> x.feed(0, 0, 0, 0, 0), 40);
        taken("the third", x -> feedText(x, sixty.substring(0, 40)), x -> x.feed(0, 0, 0, 0, 0), 60);
        refused("the fourth", x -> feedText(x, sixty), x -> x.feed(0, 0, 0, 0, 0));
        refused("the fourth, too", x -> feedText(x, "t1;".repeat(19) + "t12"), x -> x.feed(-1, MIN, MAX, 1, 0x74313b67));
        Consumer<BoatLift> full = x -> feedText(x, "t1;".repeat(19) + "t12");
        taken("a full tape is read", full, x -> x.law(60), 0);
        taken("a tape that was read has room", full.andThen(x -> x.law(60)), x -> x.feed(0, 0, 0, 0, 0), 20);
        taken("a tape with a fault has room", full.andThen(x -> x.law(1)), x -> x.feed(0, 0, 0, 0, 0), 20);
        taken("a tape that was not read has none", full.andThen(x -> x.law(61)), x -> x.feed(0, 0, 0, 0, 0), NONE);
    }

    private static void bytesOfFeeds() {
        String text = "t1;g2;i3;k4;s5;r6;t7";
        due("twenty bytes", text.length(), 20);
        for (int place = 0; place < 20; place++) {
            char[] signs = text.toCharArray();
            signs[place] |= 128;
            int fault = place % 3 == 0 ? 100 : place % 3 == 1 ? 200 : 500;
            due("a high byte at " + place, law(new BoatLift(), new String(signs)), fault + place);
        }
        BoatLift x = after(y -> y.feed(-1, -1, -1, -1, -1));
        due("bytes of 255", x.law(20), 100);
        x = after(y -> y.feed(0, 0, 0, 0, 0));
        due("bytes of 0", x.law(20), 100);
        x = after(y -> y.feed(0x74390000, 0, 0, 0, 0));
        due("a 0 behind a clause is no end", x.law(3), 502);
    }

    private static void howManyBytes() {
        Consumer<BoatLift> fed = x -> feedText(x, "t0011;g12;i13;k1;s14");
        BoatLift x = taken("all of them", fed, y -> y.law(20), 0);
        due("they are the law", numbers(x), "11 12 13 1 14 30");
        due("none are left", x.count(7), 0);
        x = taken("all but one", fed, y -> y.law(19), 0);
        due("they are the law", numbers(x), "11 12 13 1 1 30");
        due("none are left then, too", x.count(7), 0);
        x = taken("none of them", fed, y -> y.law(0), 100);
        due("none are left even then", x.count(7), 0);
        taken("none of none", NEW, y -> y.law(0), 100);
        for (int n : new int[] {21, -1, 40, 60, 61, MIN, MAX}) {
            refused("law(" + n + ") of twenty bytes", fed, y -> y.law(n));
        }
        refused("law(1) of none", NEW, y -> y.law(1));
        refused("law(61) of sixty", fed.andThen(fed).andThen(fed), y -> y.law(61));
    }

    private static void looks() {
        Consumer<BoatLift> one = x -> x.boat(1, 4, 20, 28, 50, 3);
        int[] want = {1, 4, 20, 28, 50, 3, 1, NONE, NONE};
        for (int what = 0; what < want.length; what++) {
            int w = what;
            taken("look(0, " + w + ")", one, x -> x.look(0, w), want[w]);
            for (int b : new int[] {-1, 1, 16, MIN, MAX}) {
                refused("look(" + b + ", " + w + ")", one, x -> x.look(b, w));
            }
            refused("look(0, " + w + ") of none", NEW, x -> x.look(0, w));
        }
        for (int what : new int[] {-1, 9, MIN, MAX}) {
            refused("look(0, " + what + ")", one, x -> x.look(0, what));
        }
        taken("the last of sixteen", x -> tellBoats(x, 16), x -> x.look(15, 1), 15);
        refused("behind the last of sixteen", x -> tellBoats(x, 16), x -> x.look(16, 1));
    }

    private static void counts() {
        int[] want = {90, 1, 23, 1, 1, 5, 1, 20, 0, NONE, 7, 2, 9, 3, 4, 20, NONE, NONE, NONE, NONE, 700, 900};
        for (int what = 0; what < want.length; what++) {
            int w = what;
            taken("count(" + w + ")", BoundaryTests::busy, x -> x.count(w), want[w]);
        }
        for (int what : new int[] {-1, 9, 16, 19, 22, MIN, MAX}) {
            refused("count(" + what + ")", BoundaryTests::busy, x -> x.count(what));
        }
    }

    /** All memory is the lift's own. */
    private static void memory() {
        BoatLift x = after(BoundaryTests::busy);
        String before = allThatIsTold(new BoatLift());
        due("another one is new", allThatIsTold(new BoatLift()), before);
        BoatLift y = new BoatLift();
        law(x, "t99");
        x.plan();
        due("one that was made ahead is new still", allThatIsTold(y), before);
        due("and has its own tape", y.feed(1, 2, 3, 4, 5), 20);
    }

    public static void main(String[] args) {
        minutesOfBoats();
        minutesOfQueues();
        minutesOfRides();
        minutesOfIce();
        sides();
        troughs();
        numbersOfTheLaw();
        whatNoClauseTells();
        theLaterOneCounts();
        signs();
        faults();
        placesFarBehind();
        areas();
        flows();
        rounding();
        mostWater();
        numbersOfBoats();
        sixteenBoats();
        lengthsThatFit();
        draughtsThatFit();
        orderOfQueues();
        whoIsQueued();
        lengthsTogether();
        freeTrough();
        howManyRide();
        howLongRidesLast();
        endsOfRides();
        edgesOfIce();
        eightIces();
        waits();
        waterOfRides();
        wornSeals();
        mostRides();
        renewals();
        tooMany();
        planChangesNothing();
        leastAndEarliest();
        whenPlansBegin();
        whomPlansWaitFor();
        emptyRidesOfPlans();
        whatPlansTake();
        longestPlans();
        sixtyBytes();
        bytesOfFeeds();
        howManyBytes();
        looks();
        counts();
        memory();
        System.out.println(asked + " answers, " + wrong + " not as due");
        if (wrong != 0) {
            System.exit(1);
        }
    }
}
