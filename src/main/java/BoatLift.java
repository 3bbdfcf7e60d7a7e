import java.util.ArrayList;
import java.util.List;

/** A lift that carries boats in one trough between two waters. The document is ../shared/DOC.md. */
public final class BoatLift {
    public static final int NONE = -1;

    private static final int TOO_MANY = -2;
    private static final int LOWER = 0;
    private static final int UPPER = 1;
    private static final int LAST_MINUTE = 20000;
    private static final int MOST_BOATS = 16;
    private static final int MOST_FLOW = 1000000;

    private final Tape tape;
    private final Law rules;
    private final Timetable timetable;
    private final Planner planner;
    private final Water lower;
    private final Water upper;
    private final List<Boat> byNumber;
    private final List<Boat> byTurn;
    private int troughLength;
    private int troughSide;
    private int freeFrom;
    private int sealRides;
    private int ridesEver;
    private int carried;
    private int waitedTogether;

    public BoatLift() {
        tape = new Tape();
        rules = new Law(tape);
        timetable = new Timetable(rules);
        planner = new Planner(timetable);
        lower = new Water();
        upper = new Water();
        byNumber = new ArrayList<>();
        byTurn = new ArrayList<>();
        troughLength = 100;
        troughSide = LOWER;
    }

    public int feed(int a, int b, int c, int d, int e) {
        if (!tape.hasRoom()) {
            return NONE;
        }
        tape.put(a);
        tape.put(b);
        tape.put(c);
        tape.put(d);
        tape.put(e);
        return tape.size();
    }

    public int law(int n) {
        if (!within(n, 0, tape.size())) {
            return NONE;
        }
        int fault = rules.enact(n);
        tape.empty();
        return fault;
    }

    public boolean trough(int n) {
        if (!within(n, 10, 200)) {
            return false;
        }
        troughLength = n;
        return true;
    }

    public boolean area(int side, int n) {
        if (!isSide(side) || !within(n, 1, 10000)) {
            return false;
        }
        waterAt(side).spreadOver(n);
        return true;
    }

    public boolean flow(int side, int tonnes) {
        if (!isSide(side) || !within(tonnes, -MOST_FLOW, MOST_FLOW)) {
            return false;
        }
        waterAt(side).gain(tonnes);
        return true;
    }

    public boolean ice(int from, int to) {
        if (!isMinute(from) || !isMinute(to) || from >= to) {
            return false;
        }
        return timetable.addIce(from, to);
    }

    public int boat(int side, int minute, int length, int draught, int weight, int rank) {
        if (!isSide(side) || !isMinute(minute) || !within(length, 1, 100)) {
            return NONE;
        }
        if (!within(draught, 1, 40) || !within(weight, 1, 2000) || !within(rank, 0, 3)) {
            return NONE;
        }
        if (byNumber.size() >= MOST_BOATS) {
            return NONE;
        }
        Boat boat = new Boat(byNumber.size(), side, minute, length, draught, weight, rank);
        byNumber.add(boat);
        byTurn.add(turnOf(boat), boat);
        return boat.number;
    }

    public int queue(int side, int minute, int i) {
        if (!isSide(side) || !isMinute(minute) || i < 0) {
            return NONE;
        }
        int ahead = 0;
        for (int turn = 0; turn < byTurn.size(); turn++) {
            Boat boat = byTurn.get(turn);
            if (isQueued(boat, side, minute)) {
                if (ahead == i) {
                    return boat.number;
                }
                ahead++;
            }
        }
        return NONE;
    }

    public int fitting(int minute) {
        return isMinute(minute) ? fittingAt(minute) : NONE;
    }

    public int ride(int minute, int n) {
        if (!isMinute(minute) || minute < freeFrom || n < 0 || n > fittingAt(minute)) {
            return NONE;
        }
        int end = timetable.endOf(minute);
        if (sealRides >= rules.number(Law.SEAL_BEARS) || end > LAST_MINUTE) {
            return NONE;
        }
        int weight = carryFirst(n, minute);
        // water goes down for what goes up; the leak goes down whichever way the trough goes
        sendDown((troughSide == LOWER ? weight : -weight) + sealRides);
        troughSide = otherSide(troughSide);
        freeFrom = end;
        sealRides++;
        ridesEver++;
        return end;
    }

    public int renew(int minute) {
        if (!isMinute(minute) || minute < freeFrom) {
            return NONE;
        }
        int end = minute + rules.number(Law.RENEWAL);
        if (end > LAST_MINUTE) {
            return NONE;
        }
        freeFrom = end;
        sealRides = 0;
        return end;
    }

    public int plan() {
        int left = gatherLeft();
        if (left > Planner.MOST_PLANNED) {
            return TOO_MANY;
        }
        return left == 0 ? 0 : Planner.waitsOf(bestPlan());
    }

    public int ends() {
        int left = gatherLeft();
        if (left > Planner.MOST_PLANNED) {
            return TOO_MANY;
        }
        return left == 0 ? NONE : Planner.endOf(bestPlan());
    }

    public long stock(int side) {
        return isSide(side) ? waterAt(side).tonnes() : 0;
    }

    public int level(int side) {
        return isSide(side) ? waterAt(side).centimetres() : 0;
    }

    public int depth(int side) {
        return isSide(side) ? waterAt(side).decimetres() : 0;
    }

    public int look(int b, int what) {
        if (!within(b, 0, byNumber.size() - 1)) {
            return NONE;
        }
        Boat boat = byNumber.get(b);
        switch (what) {
            case 0: return boat.side;
            case 1: return boat.minute;
            case 2: return boat.length;
            case 3: return boat.draught;
            case 4: return boat.weight;
            case 5: return boat.rank;
            case 6: return isFit(boat) ? 1 : 0;
            case 7: return boat.began;
            case 8: return boat.waited();
            default: return NONE;
        }
    }

    public int count(int what) {
        if (within(what, 10, 15)) {
            return rules.number(what - 10);
        }
        switch (what) {
            case 0: return troughLength;
            case 1: return troughSide;
            case 2: return freeFrom;
            case 3: return sealRides;
            case 4: return ridesEver;
            case 5: return byNumber.size();
            case 6: return carried;
            case 7: return tape.size();
            case 8: return waitedTogether;
            case 20: return lower.spread();
            case 21: return upper.spread();
            default: return NONE;
        }
    }

    private static boolean within(int n, int least, int most) {
        return n >= least && n <= most;
    }

    private static boolean isSide(int side) {
        return side == LOWER || side == UPPER;
    }

    private static boolean isMinute(int minute) {
        return within(minute, 0, LAST_MINUTE);
    }

    private static int otherSide(int side) {
        return side == LOWER ? UPPER : LOWER;
    }

    private Water waterAt(int side) {
        return side == LOWER ? lower : upper;
    }

    private void sendDown(int tonnes) {
        upper.gain(-tonnes);
        lower.gain(tonnes);
    }

    private boolean isFit(Boat boat) {
        int keel = boat.draught + rules.number(Law.UNDER_KEEL);
        return boat.length <= troughLength && keel <= lower.decimetres() && keel <= upper.decimetres();
    }

    private boolean isLeft(Boat boat) {
        return boat.began == NONE && isFit(boat);
    }

    private boolean isQueued(Boat boat, int side, int minute) {
        return boat.side == side && boat.minute <= minute && isLeft(boat);
    }

    /** What orders a queue never changes, so the boats are kept in that order from the first. */
    private int turnOf(Boat boat) {
        int turn = 0;
        while (turn < byTurn.size() && !boat.goesAheadOf(byTurn.get(turn))) {
            turn++;
        }
        return turn;
    }

    private int fittingAt(int minute) {
        int room = troughLength;
        int fit = 0;
        for (int turn = 0; turn < byTurn.size(); turn++) {
            Boat boat = byTurn.get(turn);
            if (isQueued(boat, troughSide, minute)) {
                room -= boat.length;
                if (room < 0) {
                    return fit;
                }
                fit++;
            }
        }
        return fit;
    }

    /** Answers the weight only, since water that moved in between would change who is fit. */
    private int carryFirst(int n, int minute) {
        int weight = 0;
        int taken = 0;
        for (int turn = 0; turn < byTurn.size() && taken < n; turn++) {
            Boat boat = byTurn.get(turn);
            if (isQueued(boat, troughSide, minute)) {
                boat.began = minute;
                weight += boat.weight;
                waitedTogether += boat.waited();
                taken++;
            }
        }
        carried += taken;
        return weight;
    }

    private int gatherLeft() {
        planner.forgetBoats();
        int left = 0;
        for (int turn = 0; turn < byTurn.size(); turn++) {
            Boat boat = byTurn.get(turn);
            if (isLeft(boat)) {
                planner.addBoat(boat);
                left++;
            }
        }
        return left;
    }

    private long bestPlan() {
        return planner.best(troughSide, freeFrom, troughLength);
    }

    /** The bytes that were fed and not yet read. */
    private static final class Tape {
        private static final int MOST_BYTES = 60;
        private static final int FED_AT_ONCE = 20;

        private final int[] bytes = new int[MOST_BYTES];
        private int size;

        int size() {
            return size;
        }

        boolean hasRoom() {
            return size + FED_AT_ONCE <= MOST_BYTES;
        }

        void put(int four) {
            for (int shift = 24; shift >= 0 && size < MOST_BYTES; shift -= 8) {
                bytes[size] = four >>> shift & 255;
                size++;
            }
        }

        int at(int place) {
            return place >= 0 && place < size ? bytes[place] : NONE;
        }

        void empty() {
            size = 0;
        }
    }

    /** The numbers of THE LAW, and the reading of its text. */
    private static final class Law {
        static final int RIDE = 0;
        static final int GATES = 1;
        static final int ICE = 2;
        static final int UNDER_KEEL = 3;
        static final int SEAL_BEARS = 4;
        static final int RENEWAL = 5;

        private static final int LETTERS = 6;
        private static final int MOST_DIGITS = 4;
        private static final int[] LETTER = {'t', 'g', 'i', 'k', 's', 'r'};
        private static final int[] FIRST = {10, 3, 5, 2, 50, 30};
        private static final int[] LEAST = {1, 0, 0, 0, 1, 1};
        private static final int[] MOST = {999, 99, 99, 20, 999, 999};

        private final Tape tape;
        private final int[] numbers = FIRST.clone();
        // apart from the numbers, since a text with a fault leaves those as they are
        private final int[] draft = FIRST.clone();
        private int size;
        private int place;

        Law(Tape tape) {
            this.tape = tape;
        }

        int number(int letter) {
            return letter >= 0 && letter < LETTERS ? numbers[letter] : NONE;
        }

        int enact(int n) {
            size = n;
            place = 0;
            System.arraycopy(FIRST, 0, draft, 0, LETTERS);
            int fault = faultOfText();
            if (fault == 0) {
                System.arraycopy(draft, 0, numbers, 0, LETTERS);
            }
            return fault;
        }

        private int faultOfText() {
            for (int clauses = 0; clauses <= size; clauses++) {
                int fault = faultOfClause();
                if (fault != 0 || place >= size) {
                    return fault;
                }
                if (sign() != ';') {
                    return fault(5, place);
                }
                place++;
            }
            return 0;
        }

        private int faultOfClause() {
            int letter = letterOf(sign());
            if (letter < 0) {
                return fault(1, place);
            }
            place++;
            int first = place;
            int value = 0;
            while (place < size && isDigit(sign())) {
                if (place - first == MOST_DIGITS) {
                    return fault(3, place);
                }
                value = value * 10 + sign() - '0';
                place++;
            }
            if (place == first) {
                return fault(2, first);
            }
            if (value < LEAST[letter] || value > MOST[letter]) {
                return fault(4, first);
            }
            draft[letter] = value;
            return 0;
        }

        private int sign() {
            return place < size ? tape.at(place) : NONE;
        }

        private static int letterOf(int sign) {
            for (int letter = 0; letter < LETTERS; letter++) {
                if (LETTER[letter] == sign) {
                    return letter;
                }
            }
            return NONE;
        }

        private static boolean isDigit(int sign) {
            return sign >= '0' && sign <= '9';
        }

        private static int fault(int number, int place) {
            return 100 * number + place;
        }
    }

    /** When a ride that begins at a minute is at its end. */
    private static final class Timetable {
        private static final int MOST_ICE = 8;

        private final Law rules;
        private final int[] iceFrom = new int[MOST_ICE];
        private final int[] iceTo = new int[MOST_ICE];
        private int told;

        Timetable(Law rules) {
            this.rules = rules;
        }

        boolean addIce(int from, int to) {
            if (told >= MOST_ICE) {
                return false;
            }
            iceFrom[told] = from;
            iceTo[told] = to;
            told++;
            return true;
        }

        int endOf(int minute) {
            int end = minute + rules.number(Law.RIDE) + 2 * rules.number(Law.GATES);
            return inIce(minute) ? end + rules.number(Law.ICE) : end;
        }

        private boolean inIce(int minute) {
            for (int i = 0; i < told && i < MOST_ICE; i++) {
                if (iceFrom[i] <= minute && minute < iceTo[i]) {
                    return true;
                }
            }
            return false;
        }
    }

    /** One of the two waters. */
    private static final class Water {
        private static final int DEPTH_AS_A_RULE = 30;

        private int area = 1000;
        private long stock;

        void spreadOver(int tonnesForACentimetre) {
            area = tonnesForACentimetre;
        }

        int spread() {
            return area;
        }

        void gain(int tonnes) {
            stock += tonnes;
        }

        long tonnes() {
            return stock;
        }

        int centimetres() {
            return area > 0 ? (int) Math.floorDiv(stock, (long) area) : 0;
        }

        int decimetres() {
            return DEPTH_AS_A_RULE + Math.floorDiv(centimetres(), 10);
        }
    }

    /** A boat as it was told, and when its ride began. */
    private static final class Boat {
        final int number;
        final int side;
        final int minute;
        final int length;
        final int draught;
        final int weight;
        final int rank;
        int began = NONE;

        Boat(int number, int side, int minute, int length, int draught, int weight, int rank) {
            this.number = number;
            this.side = side;
            this.minute = minute;
            this.length = length;
            this.draught = draught;
            this.weight = weight;
            this.rank = rank;
        }

        int waited() {
            return began == NONE ? NONE : began - minute;
        }

        /** Asked of the newest boat alone: of like ones it goes behind, having the highest number. */
        boolean goesAheadOf(Boat other) {
            return rank < other.rank || rank == other.rank && minute < other.minute;
        }
    }

    /**
     * THE PLAN. A ride's length hangs on the minute alone at which it begins, so the trough can be free only at
     * MOMENTS: a start (the minute from which it is free now, or that of a boat it waited for) and so many rides
     * behind it without a wait. What is best from a moment on is kept, so that no moment is searched twice.
     */
    private static final class Planner {
        static final int MOST_PLANNED = 6;

        // each boat's ride and an empty one ahead of each
        private static final int MOST_RIDES = 2 * MOST_PLANNED;
        private static final int ROW = MOST_RIDES + 1;
        private static final int MOMENTS = (MOST_PLANNED + 1) * ROW;
        private static final int LOADS = 1 << MOST_PLANNED;
        private static final int STATES = MOMENTS * 2 * LOADS * 2;
        private static final int DEEPEST = MOST_RIDES + MOST_PLANNED;

        // waits stand above the end in one number, so that the lesser number is the better plan
        private static final int END_BITS = 16;
        private static final long END_MASK = (1L << END_BITS) - 1;
        private static final int WORTH_BITS = 40;
        private static final long WORTH_MASK = (1L << WORTH_BITS) - 1;
        private static final long NO_WAY = 1L << 38;

        private final Timetable timetable;
        private final int[] sides = new int[MOST_PLANNED];
        private final int[] comes = new int[MOST_PLANNED];
        private final int[] lengths = new int[MOST_PLANNED];
        private final int[] minutes = new int[MOMENTS];
        private int boats;
        private int troughLength;
        // made by the first plan: most objects never need it
        private long[] known;
        // stands above each kept worth, so that those of an earlier plan need not be wiped
        private long round;

        Planner(Timetable timetable) {
            this.timetable = timetable;
        }

        static int waitsOf(long worth) {
            return (int) (worth >> END_BITS);
        }

        static int endOf(long worth) {
            return (int) (worth & END_MASK);
        }

        void forgetBoats() {
            boats = 0;
        }

        /** Boats come in the order of the queues. */
        void addBoat(Boat boat) {
            if (boats < MOST_PLANNED) {
                sides[boats] = boat.side;
                comes[boats] = boat.minute;
                lengths[boats] = boat.length;
                boats++;
            }
        }

        long best(int side, int freeFrom, int length) {
            if (known == null) {
                known = new long[STATES];
            }
            round++;
            troughLength = length;
            layOutRow(0, freeFrom);
            for (int b = 0; b < boats; b++) {
                layOutRow(b + 1, comes[b]);
            }
            return bestFrom(0, side, 0, false, 0);
        }

        private void layOutRow(int row, int start) {
            int minute = start;
            for (int moment = row * ROW; moment < (row + 1) * ROW && moment < MOMENTS; moment++) {
                minutes[moment] = minute;
                minute = timetable.endOf(minute);
            }
        }

        private long bestFrom(int moment, int side, int carried, boolean cameEmpty, int depth) {
            if (moment < 0 || moment >= MOMENTS || depth > DEEPEST) {
                return NO_WAY;
            }
            if (carried == (1 << boats) - 1) {
                return minutes[moment];
            }
            int state = ((moment * 2 + side) * LOADS + carried) * 2 + (cameEmpty ? 1 : 0);
            if (known == null || state < 0 || state >= known.length) {
                return NO_WAY;
            }
            if (known[state] >>> WORTH_BITS == round) {
                return known[state] & WORTH_MASK;
            }
            long worth = bestByRiding(moment, side, carried, cameEmpty, depth);
            int later = momentOfNextBoat(minutes[moment]);
            if (later != NONE) {
                worth = Math.min(worth, bestFrom(later, side, carried, cameEmpty, depth + 1));
            }
            known[state] = round << WORTH_BITS | worth;
            return worth;
        }

        private long bestByRiding(int moment, int side, int carried, boolean cameEmpty, int depth) {
            // the row's last moment: all would have been carried by then
            if (moment % ROW == MOST_RIDES) {
                return NO_WAY;
            }
            int minute = minutes[moment];
            int other = otherSide(side);
            long worth = cameEmpty ? NO_WAY : bestFrom(moment + 1, other, carried, true, depth + 1);
            int room = troughLength;
            long waits = 0;
            int taken = carried;
            for (int b = 0; b < boats; b++) {
                if (sides[b] == side && comes[b] <= minute && (carried >> b & 1) == 0) {
                    room -= lengths[b];
                    if (room < 0) {
                        break;
                    }
                    waits += minute - comes[b];
                    taken |= 1 << b;
                    long rest = bestFrom(moment + 1, other, taken, false, depth + 1);
                    worth = Math.min(worth, (waits << END_BITS) + rest);
                }
            }
            return worth;
        }

        private int momentOfNextBoat(int minute) {
            int next = NONE;
            for (int b = 0; b < boats; b++) {
                if (comes[b] > minute && (next == NONE || comes[b] < comes[next])) {
                    next = b;
                }
            }
            return next == NONE ? NONE : (next + 1) * ROW;
        }
    }
}
