/**
 * A lock: chambers, ships, closed spans and the plan of least waiting.
 *
 * <p>All rows are made once, in the constructor, and used again by every call, so that no call
 * makes an object of its own but for the exception it throws.
 */
public final class LockRuns {
    public static final int NONE = -1;

    private static final int MOST_CHAMBERS = 2;
    private static final int MOST_SHIPS = 4;
    private static final int MOST_SPANS = 8;
    private static final int SHIP_SETS = 1 << MOST_SHIPS;

    private static final int LONGEST = 8;
    private static final int WIDEST = 3;
    private static final int SLOWEST_FILL = 60;
    private static final int LAST_ARRIVAL = 1000;
    private static final int LAST_CLOSING = 10000;
    private static final int MOST_GAP = 3;
    private static final int MOST_OVER = 3;
    private static final int MOST_RATED = 1000;
    private static final int HOUR = 60;

    private static final int LEFT = 0;
    private static final int RIGHT = 1;
    private static final int EITHER = 2;

    private final Chambers chambers;
    private final Fleet fleet;
    private final Berths berths;
    private final Planner planner;

    public LockRuns() {
        chambers = new Chambers();
        fleet = new Fleet();
        berths = new Berths(chambers, fleet);
        planner = new Planner(chambers, fleet, berths);
    }

    public int chamber(int length, int width, int fill)
            throws IllegalArgumentException, IllegalStateException {
        if (!canMeasure(length, width) || !within(fill, 1, SLOWEST_FILL)) {
            throw new IllegalArgumentException("no chamber has such numbers");
        }
        int chamber = chambers.add(length, width, fill);
        if (chamber == NONE) {
            throw new IllegalStateException("there are 2 chambers");
        }
        planner.forget();
        return chamber;
    }

    public int ship(int length, int width, int arrives, int direction, int side)
            throws IllegalArgumentException, IllegalStateException {
        if (!canMeasure(length, width) || !within(arrives, 0, LAST_ARRIVAL)
                || !within(direction, 0, 1) || !within(side, LEFT, EITHER)) {
            throw new IllegalArgumentException("no ship has such numbers");
        }
        int ship = fleet.add(length, width, arrives, direction, side);
        if (ship == NONE) {
            throw new IllegalStateException("there are 4 ships");
        }
        planner.forget();
        return ship;
    }

    public boolean closed(int chamber, int from, int to) {
        if (!chambers.has(chamber) || from < 0 || from >= to || to > LAST_CLOSING) {
            return false;
        }
        if (!chambers.addSpan(chamber, from, to)) {
            return false;
        }
        planner.forget();
        return true;
    }

    public boolean rule(int gap, int over) {
        if (!within(gap, 0, MOST_GAP) || !within(over, 0, MOST_OVER)) {
            return false;
        }
        berths.setGap(gap);
        planner.setOver(over);
        planner.forget();
        return true;
    }

    public int plan() {
        return planner.search() ? planner.waiting() : NONE;
    }

    public boolean fits(int chamber, int ships) throws IllegalArgumentException {
        if (!chambers.has(chamber)) {
            throw new IllegalArgumentException("no such chamber");
        }
        if ((ships & ~fleet.all()) != 0) {
            throw new IllegalArgumentException("a bit is no ship");
        }
        return berths.canLay(chamber, ships);
    }

    public int of(int ship, int what) throws IndexOutOfBoundsException, IllegalStateException {
        if (!fleet.has(ship) || !within(what, 0, 6)) {
            throw new IndexOutOfBoundsException("no such ship or what");
        }
        if (!planner.hasPlan()) {
            throw new IllegalStateException("there is no plan");
        }
        return planner.tellShip(ship, what);
    }

    public int run(int chamber, int k, int what)
            throws IndexOutOfBoundsException, IllegalStateException {
        if (!chambers.has(chamber) || !within(what, 0, 2)) {
            throw new IndexOutOfBoundsException("no such chamber or what");
        }
        if (!planner.hasPlan()) {
            throw new IllegalStateException("there is no plan");
        }
        return planner.tellRun(chamber, k, what);
    }

    public int late(int ship, int arrives)
            throws IndexOutOfBoundsException, IllegalArgumentException, IllegalStateException {
        if (!fleet.has(ship)) {
            throw new IndexOutOfBoundsException("no such ship");
        }
        if (!within(arrives, 0, LAST_ARRIVAL)) {
            throw new IllegalArgumentException("no ship arrives then");
        }
        if (!planner.hasPlan()) {
            throw new IllegalStateException("there is no plan");
        }
        planner.keepForComparison();
        fleet.setArrival(ship, arrives);
        return planner.search() ? planner.moved() : NONE;
    }

    public int home(int ship) throws IndexOutOfBoundsException {
        if (!fleet.has(ship)) {
            throw new IndexOutOfBoundsException("no such ship");
        }
        for (int chamber = 0; chamber < chambers.size(); chamber++) {
            if (berths.canLay(chamber, 1 << ship)) {
                return chamber;
            }
        }
        return NONE;
    }

    public int rate(int runs, int minutes) throws IllegalArgumentException, ArithmeticException {
        if (!within(runs, 0, MOST_RATED) || !within(minutes, 0, MOST_RATED)) {
            throw new IllegalArgumentException("runs and minutes are 0 to 1000");
        }
        if (minutes == 0) {
            throw new ArithmeticException("no minutes");
        }
        return HOUR * runs / minutes;
    }

    public int count(int what) {
        switch (what) {
            case 0: return chambers.size();
            case 1: return fleet.size();
            case 2: return chambers.spans();
            case 3: return planner.hasPlan() ? 1 : 0;
            case 4: return berths.gap();
            case 5: return planner.over();
            case 6: return runsOf(0);
            case 7: return runsOf(1);
            default: return NONE;
        }
    }

    private int runsOf(int chamber) {
        return chambers.has(chamber) && planner.hasPlan() ? planner.runs(chamber) : NONE;
    }

    private static boolean canMeasure(int length, int width) {
        return within(length, 1, LONGEST) && within(width, 1, WIDEST);
    }

    private static boolean within(int value, int least, int most) {
        return value >= least && value <= most;
    }

    private static boolean holds(int set, int ship) {
        return (set & (1 << ship)) != 0;
    }

    /** The chambers and the spans in which they are closed. */
    private static final class Chambers {
        private final int[] lengths = new int[MOST_CHAMBERS];
        private final int[] widths = new int[MOST_CHAMBERS];
        private final int[] fills = new int[MOST_CHAMBERS];
        private int size;

        private final int[] spanChambers = new int[MOST_SPANS];
        private final int[] spanBegins = new int[MOST_SPANS];
        private final int[] spanEnds = new int[MOST_SPANS];
        private int spans;

        int size() {
            return size;
        }

        int spans() {
            return spans;
        }

        boolean has(int chamber) {
            return chamber >= 0 && chamber < size && chamber < MOST_CHAMBERS;
        }

        /** The new chamber's number, or NONE if there is no room for it. */
        int add(int length, int width, int fill) {
            int chamber = size;
            if (chamber < 0 || chamber >= MOST_CHAMBERS) {
                return NONE;
            }
            lengths[chamber] = length;
            widths[chamber] = width;
            fills[chamber] = fill;
            size = chamber + 1;
            return chamber;
        }

        /** False if there is no room for one more span. */
        boolean addSpan(int chamber, int from, int to) {
            int span = spans;
            if (span < 0 || span >= MOST_SPANS) {
                return false;
            }
            spanChambers[span] = chamber;
            spanBegins[span] = from;
            spanEnds[span] = to;
            spans = span + 1;
            return true;
        }

        int length(int chamber) {
            return has(chamber) ? lengths[chamber] : 0;
        }

        int width(int chamber) {
            return has(chamber) ? widths[chamber] : 0;
        }

        int fill(int chamber) {
            return has(chamber) ? fills[chamber] : 0;
        }

        /** The first time from this one on at which a run keeps clear of all closed spans. */
        int firstOpen(int chamber, int time) {
            int begin = time;
            // A pass that moves the beginning leaves at least one span behind for good, so as
            // many passes as there are spans are enough.
            for (int pass = 0; pass < MOST_SPANS; pass++) {
                int moved = pastSpans(chamber, begin);
                if (moved == begin) {
                    break;
                }
                begin = moved;
            }
            return begin;
        }

        private int pastSpans(int chamber, int time) {
            int fill = fill(chamber);
            int begin = time;
            for (int span = 0; span < MOST_SPANS && span < spans; span++) {
                if (spanChambers[span] == chamber && begin < spanEnds[span]
                        && begin + fill > spanBegins[span]) {
                    begin = spanEnds[span];
                }
            }
            return begin;
        }
    }

    /** The ships; a set of them is an int with a bit for each. */
    private static final class Fleet {
        private final int[] lengths = new int[MOST_SHIPS];
        private final int[] widths = new int[MOST_SHIPS];
        private final int[] arrivals = new int[MOST_SHIPS];
        private final int[] directions = new int[MOST_SHIPS];
        private final int[] sides = new int[MOST_SHIPS];
        private int size;

        int size() {
            return size;
        }

        boolean has(int ship) {
            return ship >= 0 && ship < size && ship < MOST_SHIPS;
        }

        int all() {
            return (1 << size) - 1;
        }

        /** The new ship's number, or NONE if there is no room for it. */
        int add(int length, int width, int arrives, int direction, int side) {
            int ship = size;
            if (ship < 0 || ship >= MOST_SHIPS) {
                return NONE;
            }
            lengths[ship] = length;
            widths[ship] = width;
            arrivals[ship] = arrives;
            directions[ship] = direction;
            sides[ship] = side;
            size = ship + 1;
            return ship;
        }

        int length(int ship) {
            return has(ship) ? lengths[ship] : 0;
        }

        int width(int ship) {
            return has(ship) ? widths[ship] : 0;
        }

        int side(int ship) {
            return has(ship) ? sides[ship] : EITHER;
        }

        int arrival(int ship) {
            return has(ship) ? arrivals[ship] : 0;
        }

        void setArrival(int ship, int arrives) {
            if (has(ship)) {
                arrivals[ship] = arrives;
            }
        }

        /** The direction that all ships of a set have, or NONE. */
        int commonDirection(int set) {
            int common = NONE;
            for (int ship = 0; ship < MOST_SHIPS; ship++) {
                if (holds(set, ship)) {
                    if (common != NONE && common != directions[ship]) {
                        return NONE;
                    }
                    common = directions[ship];
                }
            }
            return common;
        }

        int lastArrival(int set) {
            int last = 0;
            for (int ship = 0; ship < MOST_SHIPS; ship++) {
                if (holds(set, ship)) {
                    last = Math.max(last, arrivals[ship]);
                }
            }
            return last;
        }

        int waiting(int set, int begin) {
            int sum = 0;
            for (int ship = 0; ship < MOST_SHIPS; ship++) {
                if (holds(set, ship)) {
                    sum += begin - arrivals[ship];
                }
            }
            return sum;
        }

        /** Whether the other ship has to stay behind this one unless it overtakes it. */
        boolean comesBehind(int other, int ship) {
            if (!has(other) || !has(ship) || directions[other] != directions[ship]) {
                return false;
            }
            return arrivals[other] > arrivals[ship]
                    || arrivals[other] == arrivals[ship] && other > ship;
        }
    }

    /**
     * Lays ships into a chamber; the places of the last laying stay in it. A set of cells is an
     * int with bit WIDEST * x + y for the cell at x and y.
     */
    private static final class Berths {
        private static final int UNKNOWN = 0;
        private static final int FITTING = 1;
        private static final int UNFITTING = 2;

        private final Chambers chambers;
        private final Fleet fleet;
        private final int[] xs = new int[MOST_SHIPS];
        private final int[] ys = new int[MOST_SHIPS];
        // Chambers and ships keep their measures, so what was found for a gap holds for good.
        private final int[] found = new int[(MOST_GAP + 1) * MOST_CHAMBERS * SHIP_SETS];
        private int gap;

        Berths(Chambers chambers, Fleet fleet) {
            this.chambers = chambers;
            this.fleet = fleet;
        }

        int gap() {
            return gap;
        }

        void setGap(int gap) {
            this.gap = gap;
        }

        int x(int ship) {
            return ship >= 0 && ship < MOST_SHIPS ? xs[ship] : NONE;
        }

        int y(int ship) {
            return ship >= 0 && ship < MOST_SHIPS ? ys[ship] : NONE;
        }

        boolean canLay(int chamber, int set) {
            int at = (gap * MOST_CHAMBERS + chamber) * SHIP_SETS + set;
            if (at < 0 || at >= found.length) {
                return false;
            }
            if (found[at] == UNKNOWN) {
                found[at] = layFrom(0, chamber, set, 0) ? FITTING : UNFITTING;
            }
            return found[at] == FITTING;
        }

        /** Lays these ships in the first of all ways, if there is one. */
        boolean lay(int chamber, int set) {
            return layFrom(0, chamber, set, 0);
        }

        /** Lays those of a set from this ship on, clear of the cells that the others block. */
        private boolean layFrom(int ship, int chamber, int set, int blocked) {
            if (ship < 0 || ship >= MOST_SHIPS) {
                return true;
            }
            if (!holds(set, ship)) {
                return layFrom(ship + 1, chamber, set, blocked);
            }
            int length = fleet.length(ship);
            int width = fleet.width(ship);
            int lastX = chambers.length(chamber) - length;
            int lastY = chambers.width(chamber) - width;
            if (lastY < 0) {
                return false;
            }
            int firstY = fleet.side(ship) == RIGHT ? lastY : 0;
            if (fleet.side(ship) == LEFT) {
                lastY = 0;
            }
            int hull = cells(0, length, 0, width);
            for (int x = 0; x <= lastX; x++) {
                for (int y = firstY; y <= lastY; y++) {
                    if (((hull << (WIDEST * x + y)) & blocked) == 0) {
                        xs[ship] = x;
                        ys[ship] = y;
                        // Cells nearer than the gap are blocked for the others too.
                        int near = cells(x - gap, x + length + gap, y - gap, y + width + gap);
                        if (layFrom(ship + 1, chamber, set, blocked | near)) {
                            return true;
                        }
                    }
                }
            }
            return false;
        }

        /** The cells of a rectangle, less what stands out of the largest chamber. */
        private static int cells(int fromX, int toX, int fromY, int toY) {
            int cells = 0;
            for (int x = Math.max(fromX, 0); x < toX && x < LONGEST; x++) {
                for (int y = Math.max(fromY, 0); y < toY && y < WIDEST; y++) {
                    cells |= 1 << (WIDEST * x + y);
                }
            }
            return cells;
        }
    }

    /** Which run of which chamber each ship has, and when that begins. */
    private static final class Timetable {
        private final int[] begins = new int[MOST_SHIPS];
        private final int[] chambers = new int[MOST_SHIPS];
        private final int[] runs = new int[MOST_SHIPS];
        private int waiting;

        int waiting() {
            return waiting;
        }

        void setWaiting(int waiting) {
            this.waiting = waiting;
        }

        int begin(int ship) {
            return ship >= 0 && ship < MOST_SHIPS ? begins[ship] : NONE;
        }

        /** When the run of these ships begins, if they have one together. */
        int beginOfAll(int set) {
            for (int ship = 0; ship < MOST_SHIPS; ship++) {
                if (holds(set, ship)) {
                    return begins[ship];
                }
            }
            return NONE;
        }

        int chamberOf(int ship) {
            return ship >= 0 && ship < MOST_SHIPS ? chambers[ship] : NONE;
        }

        int runOf(int ship) {
            return ship >= 0 && ship < MOST_SHIPS ? runs[ship] : NONE;
        }

        void put(int set, int chamber, int run, int begin) {
            for (int ship = 0; ship < MOST_SHIPS; ship++) {
                if (holds(set, ship)) {
                    begins[ship] = begin;
                    chambers[ship] = chamber;
                    runs[ship] = run;
                }
            }
        }

        void copyFrom(Timetable other) {
            for (int ship = 0; ship < MOST_SHIPS; ship++) {
                begins[ship] = other.begins[ship];
                chambers[ship] = other.chambers[ship];
                runs[ship] = other.runs[ship];
            }
            waiting = other.waiting;
        }

        /** Whether it is the better plan for these ships. */
        boolean isAheadOf(Timetable other, int set) {
            if (waiting != other.waiting) {
                return waiting < other.waiting;
            }
            for (int ship = 0; ship < MOST_SHIPS; ship++) {
                if (holds(set, ship) && differs(other, ship)) {
                    return begins[ship] < other.begins[ship]
                            || begins[ship] == other.begins[ship]
                            && chambers[ship] < other.chambers[ship];
                }
            }
            return false;
        }

        int differences(Timetable other, int set) {
            int sum = 0;
            for (int ship = 0; ship < MOST_SHIPS; ship++) {
                if (holds(set, ship) && differs(other, ship)) {
                    sum++;
                }
            }
            return sum;
        }

        private boolean differs(Timetable other, int ship) {
            return begin(ship) != other.begin(ship) || chamberOf(ship) != other.chamberOf(ship);
        }

        /** Those ships of a set that have this run of this chamber. */
        int aboard(int chamber, int run, int set) {
            int aboard = 0;
            for (int ship = 0; ship < MOST_SHIPS; ship++) {
                if (holds(set, ship) && chambers[ship] == chamber && runs[ship] == run) {
                    aboard |= 1 << ship;
                }
            }
            return aboard;
        }
    }

    /** Finds the plan by trying all of them, and tells of the one it found. */
    private static final class Planner {
        private final Chambers chambers;
        private final Fleet fleet;
        private final Berths berths;
        private final Timetable trial = new Timetable();
        private final Timetable best = new Timetable();
        private final Timetable previous = new Timetable();
        private boolean planned;
        private int over = MOST_OVER;

        Planner(Chambers chambers, Fleet fleet, Berths berths) {
            this.chambers = chambers;
            this.fleet = fleet;
            this.berths = berths;
        }

        int over() {
            return over;
        }

        void setOver(int over) {
            this.over = over;
        }

        boolean hasPlan() {
            return planned;
        }

        void forget() {
            planned = false;
        }

        int waiting() {
            return best.waiting();
        }

        boolean search() {
            planned = false;
            tryRuns(0, 0, fleet.all(), 0, 0, 0);
            return planned;
        }

        void keepForComparison() {
            previous.copyFrom(best);
        }

        /** How many ships have another chamber or beginning than in the plan that was kept. */
        int moved() {
            return best.differences(previous, fleet.all());
        }

        /**
         * Tries every run that a chamber, free from a time on at a level, can make next of the
         * ships that are left, and at last leaves them all to the next chamber. Each level of
         * the recursion takes ships or goes one chamber on, so it stays below seven.
         */
        private void tryRuns(int chamber, int run, int left, int free, int level, int waited) {
            if (planned && waited > best.waiting()) {
                return;
            }
            if (left == 0) {
                offerTrial(waited);
                return;
            }
            if (!chambers.has(chamber)) {
                return;
            }
            int fill = chambers.fill(chamber);
            for (int set = 1; set < SHIP_SETS; set++) {
                if ((set & ~left) == 0 && canRun(chamber, set)) {
                    int direction = fleet.commonDirection(set);
                    int ready = level == direction ? free : free + fill;
                    int begin = chambers.firstOpen(chamber,
                            Math.max(ready, fleet.lastArrival(set)));
                    trial.put(set, chamber, run, begin);
                    tryRuns(chamber, run + 1, left & ~set, begin + fill, 1 - direction,
                            waited + fleet.waiting(set, begin));
                }
            }
            tryRuns(chamber + 1, 0, left, 0, 0, waited);
        }

        private boolean canRun(int chamber, int set) {
            return fleet.commonDirection(set) != NONE && berths.canLay(chamber, set);
        }

        private void offerTrial(int waited) {
            for (int ship = 0; ship < fleet.size(); ship++) {
                if (overtaken(trial, ship) > over) {
                    return;
                }
            }
            trial.setWaiting(waited);
            if (!planned || trial.isAheadOf(best, fleet.all())) {
                best.copyFrom(trial);
                planned = true;
            }
        }

        private int overtaken(Timetable table, int ship) {
            int times = 0;
            for (int other = 0; other < fleet.size(); other++) {
                if (fleet.comesBehind(other, ship) && table.begin(other) < table.begin(ship)) {
                    times++;
                }
            }
            return times;
        }

        int tellShip(int ship, int what) {
            switch (what) {
                case 0: return best.chamberOf(ship);
                case 1: return best.runOf(ship);
                case 2: return best.begin(ship);
                case 3: return layRunOf(ship) ? berths.x(ship) : NONE;
                case 4: return layRunOf(ship) ? berths.y(ship) : NONE;
                case 5: return best.begin(ship) - fleet.arrival(ship);
                case 6: return overtaken(best, ship);
                default: return NONE;
            }
        }

        private boolean layRunOf(int ship) {
            int chamber = best.chamberOf(ship);
            return berths.lay(chamber, best.aboard(chamber, best.runOf(ship), fleet.all()));
        }

        int tellRun(int chamber, int run, int what) {
            int aboard = best.aboard(chamber, run, fleet.all());
            if (aboard == 0) {
                return NONE;
            }
            switch (what) {
                case 0: return best.beginOfAll(aboard);
                case 1: return fleet.commonDirection(aboard);
                case 2: return aboard;
                default: return NONE;
            }
        }

        int runs(int chamber) {
            int runs = 0;
            for (int ship = 0; ship < fleet.size(); ship++) {
                if (best.chamberOf(ship) == chamber) {
                    runs = Math.max(runs, best.runOf(ship) + 1);
                }
            }
            return runs;
        }
    }
}
