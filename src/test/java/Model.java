import java.util.ArrayList;
import java.util.List;

/**
 * A second program of the document, slow and plain: minutes are counted one by one, all places and
 * all plans are gone through whole. It shares no code with LockRuns.
 */
final class Model {
    record Chamber(int length, int width, int fill) { }

    record Span(int chamber, int from, int to) { }

    static final class Ship {
        final int length;
        final int width;
        final int direction;
        final int side;
        int arrives;

        Ship(int length, int width, int arrives, int direction, int side) {
            this.length = length;
            this.width = width;
            this.arrives = arrives;
            this.direction = direction;
            this.side = side;
        }
    }

    /** For each ship its chamber, run and beginning. */
    record Plan(int waiting, int[] chamber, int[] run, int[] begin) { }

    final List<Chamber> chambers = new ArrayList<>();
    final List<Ship> ships = new ArrayList<>();
    final List<Span> spans = new ArrayList<>();
    int gap = 0;
    int over = 3;
    Plan plan = null;

    int chamber(int length, int width, int fill) {
        if (length < 1 || length > 8 || width < 1 || width > 3 || fill < 1 || fill > 60) {
            throw new IllegalArgumentException();
        }
        if (chambers.size() == 2) {
            throw new IllegalStateException();
        }
        chambers.add(new Chamber(length, width, fill));
        plan = null;
        return chambers.size() - 1;
    }

    int ship(int length, int width, int arrives, int direction, int side) {
        if (length < 1 || length > 8 || width < 1 || width > 3 || arrives < 0 || arrives > 1000
                || direction < 0 || direction > 1 || side < 0 || side > 2) {
            throw new IllegalArgumentException();
        }
        if (ships.size() == 4) {
            throw new IllegalStateException();
        }
        ships.add(new Ship(length, width, arrives, direction, side));
        plan = null;
        return ships.size() - 1;
    }

    boolean closed(int chamber, int from, int to) {
        if (chamber < 0 || chamber >= chambers.size() || from < 0 || to > 10000 || from >= to
                || spans.size() == 8) {
            return false;
        }
        spans.add(new Span(chamber, from, to));
        plan = null;
        return true;
    }

    boolean rule(int newGap, int newOver) {
        if (newGap < 0 || newGap > 3 || newOver < 0 || newOver > 3) {
            return false;
        }
        gap = newGap;
        over = newOver;
        plan = null;
        return true;
    }

    int plan() {
        plan = bestPlan();
        return plan == null ? -1 : plan.waiting();
    }

    boolean fits(int chamber, int set) {
        if (chamber < 0 || chamber >= chambers.size() || set < 0 || set >= 1 << ships.size()) {
            throw new IllegalArgumentException();
        }
        return places(chamber, set) != null;
    }

    int of(int ship, int what) {
        if (ship < 0 || ship >= ships.size() || what < 0 || what > 6) {
            throw new IndexOutOfBoundsException();
        }
        if (plan == null) {
            throw new IllegalStateException();
        }
        int[] place = places(plan.chamber()[ship], aboard(plan.chamber()[ship], plan.run()[ship]));
        int[] answers = {plan.chamber()[ship], plan.run()[ship], plan.begin()[ship],
            place[2 * ship], place[2 * ship + 1], plan.begin()[ship] - ships.get(ship).arrives,
            overtaken(plan.begin(), ship)};
        return answers[what];
    }

    int run(int chamber, int k, int what) {
        if (chamber < 0 || chamber >= chambers.size() || what < 0 || what > 2) {
            throw new IndexOutOfBoundsException();
        }
        if (plan == null) {
            throw new IllegalStateException();
        }
        int set = aboard(chamber, k);
        if (set == 0) {
            return -1;
        }
        int any = Integer.numberOfTrailingZeros(set);
        return new int[] {plan.begin()[any], ships.get(any).direction, set}[what];
    }

    int late(int ship, int arrives) {
        if (ship < 0 || ship >= ships.size()) {
            throw new IndexOutOfBoundsException();
        }
        if (arrives < 0 || arrives > 1000) {
            throw new IllegalArgumentException();
        }
        if (plan == null) {
            throw new IllegalStateException();
        }
        Plan old = plan;
        ships.get(ship).arrives = arrives;
        if (plan() == -1) {
            return -1;
        }
        int moved = 0;
        for (int s = 0; s < ships.size(); s++) {
            if (old.chamber()[s] != plan.chamber()[s] || old.begin()[s] != plan.begin()[s]) {
                moved++;
            }
        }
        return moved;
    }

    int home(int ship) {
        if (ship < 0 || ship >= ships.size()) {
            throw new IndexOutOfBoundsException();
        }
        for (int c = 0; c < chambers.size(); c++) {
            if (fits(c, 1 << ship)) {
                return c;
            }
        }
        return -1;
    }

    int rate(int runs, int minutes) {
        if (runs < 0 || runs > 1000 || minutes < 0 || minutes > 1000) {
            throw new IllegalArgumentException();
        }
        if (minutes == 0) {
            throw new ArithmeticException();
        }
        return (int) Math.floor(60.0 * runs / minutes);
    }

    int count(int what) {
        if ((what == 6 || what == 7) && plan != null && what - 6 < chambers.size()) {
            int runs = 0;
            while (aboard(what - 6, runs) != 0) {
                runs++;
            }
            return runs;
        }
        return switch (what) {
            case 0 -> chambers.size();
            case 1 -> ships.size();
            case 2 -> spans.size();
            case 3 -> plan == null ? 0 : 1;
            case 4 -> gap;
            case 5 -> over;
            default -> -1;
        };
    }

    private int aboard(int chamber, int run) {
        int set = 0;
        for (int s = 0; s < ships.size(); s++) {
            if (plan.chamber()[s] == chamber && plan.run()[s] == run) {
                set |= 1 << s;
            }
        }
        return set;
    }

    /** The x and y of each ship of the first way to lay this set, or null. */
    private int[] places(int chamber, int set) {
        int cells = 24;
        long ways = 1;
        for (int s = 0; s < ships.size(); s++) {
            ways *= (set >> s & 1) == 1 ? cells : 1;
        }
        // The ways are counted up with ship 0 as the highest digit, x ahead of y.
        for (long way = 0; way < ways; way++) {
            int[] place = new int[8];
            long rest = way;
            long skipped = ways;
            boolean laid = true;
            for (int s = 0; s < ships.size() && laid; s++) {
                if ((set >> s & 1) == 1) {
                    skipped /= cells;
                    int cell = (int) (rest / skipped);
                    rest %= skipped;
                    place[2 * s] = cell / 3;
                    place[2 * s + 1] = cell % 3;
                    laid = stands(chamber, set, place, s);
                }
            }
            if (laid) {
                return place;
            }
            // All ways with the same wrong digit are wrong.
            way += skipped - 1 - rest;
        }
        return null;
    }

    private boolean stands(int chamber, int set, int[] place, int s) {
        Chamber c = chambers.get(chamber);
        Ship a = ships.get(s);
        int x = place[2 * s];
        int y = place[2 * s + 1];
        if (x + a.length > c.length() || y + a.width > c.width() || a.side == 0 && y != 0
                || a.side == 1 && y + a.width != c.width()) {
            return false;
        }
        for (int o = 0; o < s; o++) {
            Ship b = ships.get(o);
            int ox = place[2 * o];
            int oy = place[2 * o + 1];
            // Spread by the gap, the two must not share a point along both ways.
            boolean along = x < ox + b.length + gap && ox < x + a.length + gap;
            boolean across = y < oy + b.width + gap && oy < y + a.width + gap;
            if ((set >> o & 1) == 1 && along && across) {
                return false;
            }
        }
        return true;
    }

    /** For each chamber and time, how many of the times ahead of it are in closed spans. */
    private int[][] shutTimes() {
        int[][] shut = new int[chambers.size()][12000];
        for (int c = 0; c < chambers.size(); c++) {
            for (int time = 1; time < 12000; time++) {
                shut[c][time] = shut[c][time - 1] + (isShut(c, time - 1) ? 1 : 0);
            }
        }
        return shut;
    }

    private boolean isShut(int c, int time) {
        for (Span span : spans) {
            if (span.chamber() == c && span.from() <= time && time < span.to()) {
                return true;
            }
        }
        return false;
    }

    private Plan bestPlan() {
        int[][] shut = shutTimes();
        Plan best = null;
        int n = ships.size();
        int slots = 4 * chambers.size();
        int all = (int) Math.pow(slots, n);
        for (int code = 0; code < all; code++) {
            int[] chamber = new int[n];
            int[] run = new int[n];
            int rest = code;
            for (int s = 0; s < n; s++) {
                chamber[s] = rest % slots / 4;
                run[s] = rest % slots % 4;
                rest /= slots;
            }
            Plan one = canBe(chamber, run) ? timed(chamber, run, shut) : null;
            if (one != null && (best == null || ahead(one, best))) {
                best = one;
            }
        }
        return best;
    }

    private static boolean ahead(Plan one, Plan other) {
        if (one.waiting() != other.waiting()) {
            return one.waiting() < other.waiting();
        }
        for (int s = 0; s < one.begin().length; s++) {
            if (one.begin()[s] != other.begin()[s]) {
                return one.begin()[s] < other.begin()[s];
            }
            if (one.chamber()[s] != other.chamber()[s]) {
                return one.chamber()[s] < other.chamber()[s];
            }
        }
        return false;
    }

    /** Whether no run is left out, and the ships of each have one direction and fit. */
    private boolean canBe(int[] chamber, int[] run) {
        for (int c = 0; c < chambers.size(); c++) {
            boolean ended = false;
            for (int k = 0; k < 4; k++) {
                int set = inRun(chamber, run, c, k);
                if (set != 0 && (ended || directions(set) == 3)) {
                    return false;
                }
                ended = set == 0;
            }
        }
        for (int s = 0; s < chamber.length; s++) {
            if (places(chamber[s], inRun(chamber, run, chamber[s], run[s])) == null) {
                return false;
            }
        }
        return true;
    }

    private static int inRun(int[] chamber, int[] run, int c, int k) {
        int set = 0;
        for (int s = 0; s < chamber.length; s++) {
            set |= chamber[s] == c && run[s] == k ? 1 << s : 0;
        }
        return set;
    }

    private int directions(int set) {
        int directions = 0;
        for (int s = 0; s < ships.size(); s++) {
            directions |= (set >> s & 1) == 1 ? 1 << ships.get(s).direction : 0;
        }
        return directions;
    }

    /** The plan with these runs, or null if one is overtaken too often. */
    private Plan timed(int[] chamber, int[] run, int[][] shut) {
        int n = ships.size();
        int[] begin = new int[n];
        int waiting = 0;
        for (int c = 0; c < chambers.size(); c++) {
            int fill = chambers.get(c).fill();
            int free = 0;
            int level = 0;
            for (int k = 0; k < 4; k++) {
                int set = inRun(chamber, run, c, k);
                if (set == 0) {
                    continue;
                }
                int direction = directions(set) - 1;
                int time = level == direction ? free : free + fill;
                while (!allAreThere(set, time) || shut[c][time + fill] != shut[c][time]) {
                    time++;
                }
                for (int s = 0; s < n; s++) {
                    if ((set >> s & 1) == 1) {
                        begin[s] = time;
                        waiting += time - ships.get(s).arrives;
                    }
                }
                free = time + fill;
                level = 1 - direction;
            }
        }
        for (int s = 0; s < n; s++) {
            if (overtaken(begin, s) > over) {
                return null;
            }
        }
        return new Plan(waiting, chamber, run, begin);
    }

    private boolean allAreThere(int set, int time) {
        for (int s = 0; s < ships.size(); s++) {
            if ((set >> s & 1) == 1 && time < ships.get(s).arrives) {
                return false;
            }
        }
        return true;
    }

    private int overtaken(int[] begin, int s) {
        int times = 0;
        for (int o = 0; o < ships.size(); o++) {
            Ship a = ships.get(s);
            Ship b = ships.get(o);
            boolean later = b.arrives > a.arrives || b.arrives == a.arrives && o > s;
            if (o != s && a.direction == b.direction && later && begin[o] < begin[s]) {
                times++;
            }
        }
        return times;
    }
}
