import java.util.ArrayList;
import java.util.Arrays;
import java.util.Comparator;
import java.util.List;
import java.util.Random;

/** THE PLAN against a search that goes through every plan, as part 3 of the document tells it. */
public final class PlanTests {
    private static final int CASES = 40000;
    private static int wrong = 0;

    private record Boat(int number, int side, int minute, int length, int rank) { }

    /** Made from the words alone: no moments, nothing kept, every choice walked to its end. */
    private static final class Search {
        final List<Boat> boats = new ArrayList<>();
        final List<int[]> ice = new ArrayList<>();
        int trough;
        int lasts;
        int more;
        long leastWait = Long.MAX_VALUE;
        int leastEnd = Integer.MAX_VALUE;
        int walked;

        void walk(int free, int side, boolean[] carried, long wait, boolean mayBeEmpty, boolean begun) {
            walked++;
            if (wait > leastWait) {
                return;
            }
            boolean all = true;
            for (boolean c : carried) {
                all &= c;
            }
            if (all) {
                if (begun && (wait < leastWait || wait == leastWait && free < leastEnd)) {
                    leastWait = wait;
                    leastEnd = free;
                }
                return;
            }
            List<Integer> starts = new ArrayList<>(List.of(free));
            boats.stream().filter(b -> !carried[b.number] && b.minute > free).map(Boat::minute).distinct().forEach(starts::add);
            for (int start : starts) {
                rideAt(start, side, carried, wait, mayBeEmpty);
            }
        }

        void rideAt(int start, int side, boolean[] carried, long wait, boolean mayBeEmpty) {
            List<Boat> queue = boats.stream().filter(b -> b.side == side && b.minute <= start && !carried[b.number])
                .sorted(Comparator.comparingInt(Boat::rank).thenComparingInt(Boat::minute).thenComparingInt(Boat::number)).toList();
            boolean ices = ice.stream().anyMatch(f -> f[0] <= start && start < f[1]);
            int end = start + lasts + (ices ? more : 0);
            for (int n = mayBeEmpty ? 0 : 1; n <= queue.size(); n++) {
                List<Boat> taken = queue.subList(0, n);
                if (taken.stream().mapToInt(Boat::length).sum() > trough) {
                    break;
                }
                boolean[] then = carried.clone();
                taken.forEach(b -> then[b.number] = true);
                walk(end, 1 - side, then, wait + taken.stream().mapToInt(b -> start - b.minute).sum(), n > 0, true);
            }
        }
    }

    private static void due(String what, int got, long want) {
        if (got != want) {
            wrong++;
            System.out.println(what + " answered " + got + ", due is " + want);
        }
    }

    private static int four(String s, int at) {
        return s.charAt(at) << 24 | s.charAt(at + 1) << 16 | s.charAt(at + 2) << 8 | s.charAt(at + 3);
    }

    private static void ice(BoatLift x, Search search, int from, int length) {
        search.ice.add(new int[] {from, from + length});
        x.ice(from, from + length);
    }

    private static void compare(int seed) {
        Random random = new Random(seed);
        BoatLift x = new BoatLift();
        Search search = new Search();
        int t = 1 + random.nextInt(20);
        int g = random.nextInt(3);
        // hard ice of a few minutes just when boats come is where an empty ride, or none, tells most
        boolean hard = seed % 2 == 1;
        search.more = hard ? 60 + random.nextInt(40) : random.nextInt(4) == 0 ? 0 : random.nextInt(40);
        search.lasts = t + 2 * g;
        String law = "t" + t + ";g" + g + ";i" + search.more;
        String padded = law + " ".repeat(20 - law.length());
        x.feed(four(padded, 0), four(padded, 4), four(padded, 8), four(padded, 12), four(padded, 16));
        due("law " + law, x.law(law.length()), 0);
        search.trough = 10 + random.nextInt(60);
        x.trough(search.trough);
        int span = 1 + random.nextInt(120);
        for (int i = hard ? 0 : random.nextInt(6); i > 0; i--) {
            ice(x, search, random.nextInt(span + 20), 1 + random.nextInt(20));
        }
        int free = 0;
        int side = 0;
        for (int rides = random.nextInt(3); rides > 0; rides--) {
            free = x.ride(free + random.nextInt(5), 0);
            side = 1 - side;
        }
        int boats = 1 + random.nextInt(random.nextInt(3) == 0 ? 6 : 5);
        int ranks = 1 + random.nextInt(4);
        int longest = 1 + random.nextInt(search.trough);
        StringBuilder told = new StringBuilder();
        for (int b = 0; b < boats; b++) {
            Boat boat = new Boat(b, random.nextInt(2), random.nextInt(span), 1 + random.nextInt(longest), random.nextInt(ranks));
            search.boats.add(boat);
            told.append(boat).append(' ');
            if (hard && random.nextInt(3) > 0) {
                ice(x, search, Math.max(0, boat.minute - random.nextInt(2)), 1 + random.nextInt(3));
            }
            due("boat", x.boat(boat.side, boat.minute, boat.length, 1, 1, boat.rank), b);
        }
        search.walk(free, side, new boolean[boats], 0, true, false);
        String all = "seed " + seed + ", " + law + ", trough " + search.trough + ", ice " + Arrays.deepToString(search.ice.toArray()) + ", side " + side + ", free " + free + ", " + told;
        due(all + "plan()", x.plan(), search.leastWait);
        due(all + "ends()", x.ends(), search.leastEnd);
    }

    public static void main(String[] args) {
        for (int seed = 0; seed < CASES; seed++) {
            compare(seed);
        }
        System.out.println(CASES + " plans, " + wrong + " answers not as due");
        if (wrong != 0) {
            System.exit(1);
        }
    }
}
