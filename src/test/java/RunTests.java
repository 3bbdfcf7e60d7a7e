import java.math.BigDecimal;
import java.math.RoundingMode;
import java.util.ArrayList;
import java.util.Comparator;
import java.util.HashMap;
import java.util.List;
import java.util.Map;
import java.util.Random;

/** Long runs of random calls, right ones and wrong ones, against a plain model of the document. */
public final class RunTests {
    private static final int RUNS = 1500;
    // a step adds a few more: an object is promised for 512
    private static final int CALLS = 500;
    private static int wrong = 0;

    private static final class Boat {
        int number, side, minute, length, draught, weight, rank;
        Integer began;
    }

    private static final class Model {
        String tape = "";
        Map<Character, Integer> law = first();
        int[] area = {1000, 1000};
        long[] stock = {0, 0};
        List<int[]> ice = new ArrayList<>();
        List<Boat> boats = new ArrayList<>();
        int trough = 100, side = 0, free = 0, seal = 0, rides = 0;

        static Map<Character, Integer> first() {
            return new HashMap<>(Map.of('t', 10, 'g', 3, 'i', 5, 'k', 2, 's', 50, 'r', 30));
        }

        static int[] bounds(char letter) {
            switch (letter) {
                case 'g': case 'i': return new int[] {0, 99};
                case 'k': return new int[] {0, 20};
                default: return new int[] {1, 999};
            }
        }

        int feed(int... fives) {
            if (tape.length() > 40) {
                return -1;
            }
            StringBuilder more = new StringBuilder(tape);
            for (int four : fives) {
                for (byte b : java.nio.ByteBuffer.allocate(4).putInt(four).array()) {
                    more.append((char) (b & 0xff));
                }
            }
            tape = more.toString();
            return tape.length();
        }

        int law(int n) {
            if (n < 0 || n > tape.length()) {
                return -1;
            }
            String text = tape.substring(0, n);
            tape = "";
            Map<Character, Integer> then = first();
            int at = 0;
            for (String clause : text.split(";", -1)) {
                int fault = clauseFault(clause, at, then);
                if (fault != 0) {
                    return fault;
                }
                at += clause.length() + 1;
            }
            law = then;
            return 0;
        }

        static int clauseFault(String clause, int at, Map<Character, Integer> then) {
            if (!clause.matches("(?s)[tgiksr].*")) {
                return 100 + at;
            }
            String digits = clause.substring(1).replaceFirst("(?s)[^0-9].*", "");
            if (digits.isEmpty()) {
                return 201 + at;
            }
            if (digits.length() > 4) {
                return 305 + at;
            }
            int[] bounds = bounds(clause.charAt(0));
            int number = Integer.parseInt(digits);
            if (number < bounds[0] || number > bounds[1]) {
                return 401 + at;
            }
            if (digits.length() + 1 < clause.length()) {
                return 501 + at + digits.length();
            }
            then.put(clause.charAt(0), number);
            return 0;
        }

        int level(int s) {
            return new BigDecimal(stock[s]).divide(new BigDecimal(area[s]), 0, RoundingMode.FLOOR).intValueExact();
        }

        int depth(int s) {
            return new BigDecimal(level(s)).divide(BigDecimal.TEN, 0, RoundingMode.FLOOR).intValueExact() + 30;
        }

        boolean fit(Boat b) {
            return b.length <= trough && b.draught + law.get('k') <= Math.min(depth(0), depth(1));
        }

        List<Boat> queue(int s, int minute) {
            return boats.stream().filter(b -> b.side == s && b.minute <= minute && b.began == null && fit(b))
                .sorted(Comparator.<Boat>comparingInt(b -> b.rank).thenComparingInt(b -> b.minute).thenComparingInt(b -> b.number)).toList();
        }

        int fitting(int minute) {
            List<Boat> queue = queue(side, minute);
            for (int n = queue.size(); n > 0; n--) {
                if (queue.subList(0, n).stream().mapToInt(b -> b.length).sum() <= trough) {
                    return n;
                }
            }
            return 0;
        }

        int lasts(int minute) {
            return law.get('t') + 2 * law.get('g') + (ice.stream().anyMatch(f -> f[0] <= minute && minute < f[1]) ? law.get('i') : 0);
        }

        int ride(int minute, int n) {
            if (bad(minute, 0, 20000) || minute < free || n < 0 || n > fitting(minute) || seal >= law.get('s') || minute + lasts(minute) > 20000) {
                return -1;
            }
            for (Boat b : queue(side, minute).subList(0, n)) {
                b.began = minute;
                stock[side] += b.weight;
                stock[1 - side] -= b.weight;
            }
            stock[0] += seal;
            stock[1] -= seal;
            seal++;
            rides++;
            side = 1 - side;
            free = minute + lasts(minute);
            return free;
        }

        int renew(int minute) {
            if (bad(minute, 0, 20000) || minute < free || minute + law.get('r') > 20000) {
                return -1;
            }
            seal = 0;
            free = minute + law.get('r');
            return free;
        }

        int boat(int[] a) {
            if (bad(a[0], 0, 1) || bad(a[1], 0, 20000) || bad(a[2], 1, 100) || bad(a[3], 1, 40) || bad(a[4], 1, 2000) || bad(a[5], 0, 3) || boats.size() == 16) {
                return -1;
            }
            Boat b = new Boat();
            b.number = boats.size();
            b.side = a[0];
            b.minute = a[1];
            b.length = a[2];
            b.draught = a[3];
            b.weight = a[4];
            b.rank = a[5];
            boats.add(b);
            return b.number;
        }

        int look(int b, int what) {
            if (bad(b, 0, boats.size() - 1) || bad(what, 0, 8)) {
                return -1;
            }
            Boat x = boats.get(b);
            int waited = x.began == null ? -1 : x.began - x.minute;
            return new int[] {x.side, x.minute, x.length, x.draught, x.weight, x.rank, fit(x) ? 1 : 0, x.began == null ? -1 : x.began, waited}[what];
        }

        int count(int what) {
            int carried = (int) boats.stream().filter(b -> b.began != null).count();
            int waited = boats.stream().filter(b -> b.began != null).mapToInt(b -> b.began - b.minute).sum();
            int[] all = {trough, side, free, seal, rides, boats.size(), carried, tape.length(), waited, -1,
                law.get('t'), law.get('g'), law.get('i'), law.get('k'), law.get('s'), law.get('r'), -1, -1, -1, -1, area[0], area[1]};
            return bad(what, 0, all.length - 1) ? -1 : all[what];
        }

        static boolean bad(int n, int least, int most) {
            return n < least || n > most;
        }

        /** What a plan can only be asked for without a search: too many, or none. PlanTests asks the rest. */
        int left() {
            return (int) boats.stream().filter(b -> b.began == null && fit(b)).count();
        }
    }

    private static final class Run {
        final int seed;
        final Random random;
        final BoatLift x = new BoatLift();
        final Model model = new Model();
        final List<String> calls = new ArrayList<>();

        Run(int seed) {
            this.seed = seed;
            random = new Random(seed);
        }

        void due(String call, long got, long want) {
            calls.add(call + "=" + got);
            if (got != want) {
                wrong++;
                System.out.println("seed " + seed + ": " + call + " answered " + got + ", due is " + want + ", behind " + calls);
            }
        }

        /** Mostly within the bounds, often at them, now and then beyond. */
        int pick(int least, int most) {
            switch (random.nextInt(24)) {
                case 0: return least;
                case 1: return most;
                case 2: return random.nextBoolean() ? least - 1 : most + 1;
                case 3: return random.nextInt(4) == 0 ? random.nextInt() : least;
                default: return least + random.nextInt(most - least + 1);
            }
        }

        int soon() {
            return random.nextInt(12) == 0 ? pick(0, 20000) : Math.min(20000, Math.max(0, model.free + random.nextInt(60) - 3));
        }

        void feedText() {
            StringBuilder text = new StringBuilder();
            for (int clauses = 1 + random.nextInt(4); clauses > 0; clauses--) {
                char letter = "tgiksrx".charAt(random.nextInt(random.nextInt(8) == 0 ? 7 : 6));
                int[] bounds = Model.bounds(letter);
                text.append(letter).append(random.nextInt(12) == 0 ? "" : random.nextInt(8) == 0 ? "" + random.nextInt(12000) : "" + pick(bounds[0], Math.min(bounds[1], 30)));
                text.append(random.nextInt(10) == 0 ? ' ' : ';');
            }
            text.setLength(text.length() - (random.nextInt(6) == 0 ? 0 : 1));
            int n = text.length();
            while (text.length() % 20 != 0) {
                text.append((char) random.nextInt(256));
            }
            for (int at = 0; at < text.length(); at += 20) {
                int[] fives = new int[5];
                for (int i = 0; i < 20; i++) {
                    fives[i / 4] = fives[i / 4] << 8 | text.charAt(at + i);
                }
                due("feed", x.feed(fives[0], fives[1], fives[2], fives[3], fives[4]), model.feed(fives));
            }
            if (random.nextInt(5) != 0) {
                n = random.nextInt(8) == 0 ? pick(0, 60) : n;
                due("law(" + n + ")", x.law(n), model.law(n));
            }
        }

        void step() {
            int a = pick(0, 1);
            switch (random.nextInt(16)) {
                case 0: {
                    int n = pick(10, 200);
                    boolean ok = !Model.bad(n, 10, 200);
                    model.trough = ok ? n : model.trough;
                    due("trough(" + n + ")", x.trough(n) ? 1 : 0, ok ? 1 : 0);
                    break;
                }
                case 1: {
                    int n = pick(1, 10000);
                    boolean ok = !Model.bad(a, 0, 1) && !Model.bad(n, 1, 10000);
                    if (ok) {
                        model.area[a] = n;
                    }
                    due("area(" + a + ", " + n + ")", x.area(a, n) ? 1 : 0, ok ? 1 : 0);
                    break;
                }
                case 2: {
                    int n = random.nextInt(5) == 0 ? pick(-1000000, 1000000) : (int) Math.max(-1000000, Math.min(1000000, random.nextInt(30000) - model.stock[a & 1]));
                    boolean ok = !Model.bad(a, 0, 1) && !Model.bad(n, -1000000, 1000000);
                    if (ok) {
                        model.stock[a] += n;
                    }
                    due("flow(" + a + ", " + n + ")", x.flow(a, n) ? 1 : 0, ok ? 1 : 0);
                    break;
                }
                case 3: {
                    int from = soon();
                    int to = random.nextInt(6) == 0 ? pick(0, 20000) : from + random.nextInt(40);
                    boolean ok = !Model.bad(from, 0, 20000) && !Model.bad(to, 0, 20000) && from < to && model.ice.size() < 8;
                    if (ok) {
                        model.ice.add(new int[] {from, to});
                    }
                    due("ice(" + from + ", " + to + ")", x.ice(from, to) ? 1 : 0, ok ? 1 : 0);
                    break;
                }
                case 4: case 5: {
                    int[] b = {a, soon(), pick(1, 100), pick(1, random.nextBoolean() ? 40 : 20), pick(1, 2000), pick(0, 3)};
                    due("boat" + java.util.Arrays.toString(b), x.boat(b[0], b[1], b[2], b[3], b[4], b[5]), model.boat(b));
                    break;
                }
                case 6: case 7: case 8: {
                    int minute = soon();
                    int n = random.nextInt(6) == 0 ? random.nextInt(6) - 1 : random.nextInt(model.fitting(minute) + 1);
                    due("ride(" + minute + ", " + n + ")", x.ride(minute, n), model.ride(minute, n));
                    break;
                }
                case 9: {
                    int minute = soon();
                    if (random.nextInt(3) == 0) {
                        due("renew(" + minute + ")", x.renew(minute), model.renew(minute));
                    }
                    break;
                }
                case 10: {
                    feedText();
                    break;
                }
                default: {
                    ask(a);
                }
            }
        }

        void ask(int side) {
            int minute = soon();
            boolean noSide = Model.bad(side, 0, 1);
            int i = random.nextInt(7) - 1;
            List<Boat> queue = noSide || Model.bad(minute, 0, 20000) ? List.of() : model.queue(side, minute);
            due("queue(" + side + ", " + minute + ", " + i + ")", x.queue(side, minute, i), Model.bad(i, 0, queue.size() - 1) ? -1 : queue.get(i).number);
            due("fitting(" + minute + ")", x.fitting(minute), Model.bad(minute, 0, 20000) ? -1 : model.fitting(minute));
            due("stock(" + side + ")", x.stock(side), noSide ? 0 : model.stock[side]);
            due("level(" + side + ")", x.level(side), noSide ? 0 : model.level(side));
            due("depth(" + side + ")", x.depth(side), noSide ? 0 : model.depth(side));
            int b = pick(0, 15);
            int what = pick(0, 8);
            due("look(" + b + ", " + what + ")", x.look(b, what), model.look(b, what));
            int counted = pick(0, 22);
            due("count(" + counted + ")", x.count(counted), model.count(counted));
            int left = model.left();
            int plan = x.plan();
            int ends = x.ends();
            due("plan() of " + left, left > 6 ? plan : left == 0 ? plan : Math.min(plan, 0), left > 6 ? -2 : 0);
            due("ends() of " + left, left > 6 || left == 0 ? ends : ends >= model.free ? 1 : 0, left > 6 ? -2 : left == 0 ? -1 : 1);
        }
    }

    public static void main(String[] args) {
        for (int seed = 0; seed < RUNS && wrong < 20; seed++) {
            Run run = new Run(seed);
            while (run.calls.size() < CALLS) {
                run.step();
            }
        }
        System.out.println(RUNS + " runs, " + wrong + " answers not as due");
        if (wrong != 0) {
            System.exit(1);
        }
    }
}
