import java.util.ArrayDeque;
import java.util.ArrayList;
import java.util.Arrays;
import java.util.Deque;
import java.util.HashSet;
import java.util.List;
import java.util.Set;

/**
 * The document once more, as slowly and plainly as it can be told: every ROUTE, ERRAND, SEATED and STANDING by
 * trying all there are. It shares nothing with the class, so that both are wrong in one way only if the
 * document was read wrong.
 */
final class Model {
    static final int NONE = -1;

    /** A SUM or a TEST (1, 0), for what is given. */
    interface Sum {
        long of(Given given);
    }

    record Given(long takes, long weight, long strong, long wide, long clock, long own) {
    }

    static final class Land {
        final List<String> rooms = new ArrayList<>();
        final List<Integer> doors = new ArrayList<>();
        final List<Integer> floors = new ArrayList<>();
        final int[][] ways = new int[8][8];
        final List<String> people = new ArrayList<>();
        final List<int[]> traits = new ArrayList<>();
        final int[] partner = new int[8];
        Sum slow = null;
        Sum stands = null;
        int breaks = 0;
        int carpenter = NONE;

        Land() {
            Arrays.fill(partner, NONE);
        }
    }

    /** All that an act changes. */
    static final class State {
        final int[] at = new int[8];
        final int[] chairAt = new int[8];
        final boolean[] broken = new boolean[8];
        final int[] clock = new int[8];
        final int[] ache = new int[8];
        final List<int[]> kept = new ArrayList<>();

        State copy() {
            State other = new State();
            System.arraycopy(at, 0, other.at, 0, 8);
            System.arraycopy(chairAt, 0, other.chairAt, 0, 8);
            System.arraycopy(broken, 0, other.broken, 0, 8);
            System.arraycopy(clock, 0, other.clock, 0, 8);
            System.arraycopy(ache, 0, other.ache, 0, 8);
            other.kept.addAll(kept);
            return other;
        }
    }

    private Land land = new Land();
    private State state = new State();
    private final Deque<State> past = new ArrayDeque<>();
    private final int[] refused = new int[6];
    private List<Integer> tape = new ArrayList<>();
    private List<Integer> picture = new ArrayList<>();
    private int[] faultFound = {0, NONE};
    private long x = 1;
    private List<Integer> errandWays = null;
    private int[][] whereWays = null;

    int rooms() {
        return land.rooms.size();
    }

    int people() {
        return land.people.size();
    }

    int feed(int a, int b, int c, int d, int e) {
        if (tape.size() + 20 > 1600) {
            refused[0]++;
            return NONE;
        }
        for (int number : new int[] {a, b, c, d, e}) {
            for (int shift = 24; shift >= 0; shift -= 8) {
                tape.add(number >> shift & 255);
            }
        }
        return tape.size();
    }

    boolean end(int n) {
        if (n < 0 || n > tape.size()) {
            refused[0]++;
            return false;
        }
        tape = new ArrayList<>(tape.subList(0, n));
        return true;
    }

    private List<Integer> used() {
        List<Integer> old = tape;
        tape = new ArrayList<>();
        return old;
    }

    int town() {
        StringBuilder text = new StringBuilder();
        for (int octet : used()) {
            text.append((char) octet);
        }
        ModelText reader = new ModelText(text.toString());
        int statements = reader.read();
        faultFound = new int[] {reader.fault, reader.place};
        if (reader.fault != 0) {
            refused[1]++;
            return NONE;
        }
        land = reader.land;
        state = new State();
        for (int p = 0; p < people(); p++) {
            state.at[p] = land.traits.get(p)[3];
            state.chairAt[p] = land.traits.get(p)[3];
        }
        past.clear();
        errandWays = null;
        whereWays = null;
        return statements;
    }

    int fault(int what) {
        return what == 0 || what == 1 ? faultFound[what] : NONE;
    }

    int has(int what) {
        int sit = 0;
        int broken = 0;
        int clock = 0;
        int ache = 0;
        for (int p = 0; p < people(); p++) {
            sit += sits(state, p) ? 1 : 0;
            broken += state.broken[p] ? 1 : 0;
            clock = Math.max(clock, state.clock[p]);
            ache += state.ache[p];
        }
        int[] all = {rooms(), people(), land.breaks, land.carpenter, sit, broken, clock, ache,
            Math.min(40, state.kept.size()), past.size(), (int) x};
        return what >= 0 && what < all.length ? all[what] : NONE;
    }

    int letter(int kind, int which, int k) {
        List<String> names = kind == 0 ? land.rooms : kind == 1 ? land.people : new ArrayList<>();
        if (which < 0 || which >= names.size() || k < 0 || k > 5) {
            return NONE;
        }
        String name = names.get(which);
        return k < name.length() ? name.charAt(k) - 'a' + 1 : 0;
    }

    private boolean isRoom(int r) {
        return r >= 0 && r < rooms();
    }

    private boolean isPerson(int p) {
        return p >= 0 && p < people();
    }

    private int width(int chair) {
        return land.traits.get(chair)[2];
    }

    private int doorWidth(int chair) {
        return width(chair) + (land.partner[chair] == NONE ? 0 : width(land.partner[chair]));
    }

    private int load(State s, int r) {
        int load = 0;
        for (int c = 0; c < people(); c++) {
            if (s.chairAt[c] == r) {
                load += width(c);
            }
        }
        return load;
    }

    private boolean sits(State s, int p) {
        if (s.broken[p] || s.chairAt[p] != s.at[p]) {
            return false;
        }
        return land.partner[p] == NONE || s.chairAt[land.partner[p]] == s.at[p];
    }

    /** FITS, the chair not counted where it is. */
    private boolean fitsInto(State s, int chair, int r) {
        State away = s.copy();
        away.chairAt[chair] = NONE;
        return doorWidth(chair) <= land.doors.get(r) && load(away, r) + width(chair) <= land.floors.get(r);
    }

    int room(int r, int what) {
        if (!isRoom(r)) {
            return NONE;
        }
        int there = 0;
        int chairs = 0;
        int sit = 0;
        for (int p = 0; p < people(); p++) {
            there += state.at[p] == r ? 1 << p : 0;
            chairs += state.chairAt[p] == r ? 1 << p : 0;
            sit += state.at[p] == r && sits(state, p) ? 1 << p : 0;
        }
        int[] all = {land.doors.get(r), land.floors.get(r), load(state, r), there, chairs, sit};
        return what >= 0 && what < all.length ? all[what] : NONE;
    }

    int way(int from, int to) {
        return isRoom(from) && isRoom(to) && land.ways[from][to] > 0 ? land.ways[from][to] : NONE;
    }

    int person(int p, int what) {
        if (!isPerson(p)) {
            return NONE;
        }
        int[] t = land.traits.get(p);
        int[] all = {state.at[p], state.chairAt[p], state.broken[p] ? 1 : 0, sits(state, p) ? 1 : 0, state.clock[p],
            state.ache[p], land.partner[p], t[0], t[1], t[2], doorWidth(p)};
        return what >= 0 && what < all.length ? all[what] : NONE;
    }

    int fits(int chair, int r) {
        if (!isPerson(chair) || !isRoom(r) || state.chairAt[chair] == r) {
            return NONE;
        }
        return fitsInto(state, chair, r) ? 1 : 0;
    }

    private int more(Sum sum, long takes, int p, int chair) {
        int[] own = land.traits.get(p);
        int[] carried = land.traits.get(chair);
        long worth = sum.of(new Given(takes, carried[1], own[0], carried[2], state.clock[p], p == chair ? 1 : 0));
        return (int) Math.max(0, Math.min(999, worth));
    }

    private int withChair(int p, int chair, int from, int to) {
        int minutes = land.ways[from][to];
        return minutes + (land.slow == null ? 0 : more(land.slow, minutes, p, chair));
    }

    int takes(int p, int r, int chair) {
        if (!isPerson(p) || !isRoom(r) || land.ways[state.at[p]][r] == 0) {
            return NONE;
        }
        if (chair == NONE) {
            return land.ways[state.at[p]][r];
        }
        if (!isPerson(chair) || state.broken[chair] || state.chairAt[chair] != state.at[p]
            || !fitsInto(state, chair, r)) {
            return NONE;
        }
        return withChair(p, chair, state.at[p], r);
    }

    private void act() {
        past.addLast(state.copy());
        if (past.size() > 20) {
            past.removeFirst();
        }
    }

    private int draw(int m) {
        x = Math.floorMod(1103515245L * x + 12345L, 1L << 31);
        return (int) (Math.floorDiv(x, 64L) % m);
    }

    private void goes(int p, int r, int chair) {
        int minutes = takes(p, r, chair);
        state.clock[p] = Math.min(99999, state.clock[p] + minutes);
        state.at[p] = r;
        if (chair != NONE) {
            state.chairAt[chair] = r;
            state.kept.add(new int[] {chair, p, r, minutes});
            if (land.breaks > 0) {
                state.broken[chair] = draw(100) < land.breaks;
            }
        }
    }

    private void waits(int p, int n) {
        state.clock[p] = Math.min(99999, state.clock[p] + n);
        if (!sits(state, p)) {
            int ache = land.stands == null ? n : more(land.stands, n, p, p);
            state.ache[p] = Math.min(99999, state.ache[p] + ache);
        }
    }

    int go(int p, int r, int chair) {
        if (takes(p, r, chair) == NONE) {
            refused[2]++;
            return NONE;
        }
        act();
        goes(p, r, chair);
        return state.clock[p];
    }

    int stay(int p, int n) {
        if (!isPerson(p) || n < 1 || n > 999) {
            refused[2]++;
            return NONE;
        }
        act();
        waits(p, n);
        return state.ache[p];
    }

    boolean mend(int p, int chair) {
        if (!isPerson(p) || !isPerson(chair) || land.carpenter == NONE || state.at[p] != land.carpenter
            || state.chairAt[chair] != land.carpenter || !state.broken[chair]) {
            refused[3]++;
            return false;
        }
        act();
        state.broken[chair] = false;
        state.clock[p] = Math.min(99999, state.clock[p] + 30);
        return true;
    }

    int days(int n) {
        if (n < 1 || n > 30) {
            refused[3]++;
            return NONE;
        }
        act();
        int carried = 0;
        for (int day = 0; day < n; day++) {
            for (int p = 0; p < people(); p++) {
                switch (draw(3)) {
                    case 1 -> carried += strolls(p);
                    case 2 -> waits(p, 10);
                    default -> { }
                }
            }
        }
        return carried;
    }

    private int strolls(int p) {
        List<Integer> near = new ArrayList<>();
        for (int r = 0; r < rooms(); r++) {
            if (land.ways[state.at[p]][r] > 0) {
                near.add(r);
            }
        }
        if (near.isEmpty()) {
            return 0;
        }
        int r = near.get(draw(near.size()));
        int chair = takes(p, r, p) == NONE ? NONE : p;
        goes(p, r, chair);
        return chair == NONE ? 0 : 1;
    }

    boolean undo() {
        if (past.isEmpty()) {
            refused[4]++;
            return false;
        }
        state = past.removeLast();
        return true;
    }

    boolean seed(int seed) {
        if (seed < 0) {
            refused[5]++;
            return false;
        }
        x = seed;
        return true;
    }

    int kept(int k, int what) {
        int first = Math.max(0, state.kept.size() - 40);
        if (k < 0 || first + (long) k >= state.kept.size() || what < 0 || what > 3) {
            return NONE;
        }
        return state.kept.get(first + k)[what];
    }

    /** The best path: minutes, then rooms come to, then who; null without one. */
    private final class Search {
        private final int chair;
        private final int to;
        private final int[] carriers;
        int least = Integer.MAX_VALUE;
        List<Integer> path = null;
        List<Integer> who = null;

        Search(int chair, int to, int[] carriers) {
            this.chair = chair;
            this.to = to;
            this.carriers = carriers;
            Set<Integer> seen = new HashSet<>();
            seen.add(state.chairAt[chair]);
            walk(state.chairAt[chair], 0, new ArrayList<>(), new ArrayList<>(), seen);
        }

        private void walk(int at, int minutes, List<Integer> gone, List<Integer> by, Set<Integer> seen) {
            if (at == to) {
                // rooms are tried in order, so of like ones the first was found first
                if (minutes < least) {
                    least = minutes;
                    path = new ArrayList<>(gone);
                    who = new ArrayList<>(by);
                }
                return;
            }
            for (int r = 0; r < rooms(); r++) {
                if (seen.contains(r) || land.ways[at][r] == 0 || !fitsInto(state, chair, r)) {
                    continue;
                }
                int best = NONE;
                for (int p : carriers) {
                    if (best == NONE || withChair(p, chair, at, r) < withChair(best, chair, at, r)) {
                        best = p;
                    }
                }
                seen.add(r);
                gone.add(r);
                by.add(best);
                walk(r, minutes + withChair(best, chair, at, r), gone, by, seen);
                seen.remove(r);
                gone.remove(gone.size() - 1);
                by.remove(by.size() - 1);
            }
        }
    }

    private static int nth(List<Integer> list, int k) {
        return list != null && k >= 0 && k < list.size() ? list.get(k) : NONE;
    }

    int route(int p, int chair, int r, int k) {
        if (!isPerson(p) || !isPerson(chair) || !isRoom(r) || state.broken[chair]) {
            return NONE;
        }
        Search search = new Search(chair, r, new int[] {p});
        if (k == NONE) {
            return search.path == null ? NONE : search.least;
        }
        return nth(search.path, k);
    }

    int bearer(int chair, int r, int k) {
        if (!isPerson(chair) || !isRoom(r) || state.broken[chair]) {
            return NONE;
        }
        int[] all = new int[people()];
        for (int p = 0; p < all.length; p++) {
            all[p] = p;
        }
        Search search = new Search(chair, r, all);
        if (k == NONE) {
            return search.path == null ? NONE : search.least;
        }
        return nth(search.who, k);
    }

    int errand(int p) {
        List<Integer> told = used();
        boolean good = isPerson(p) && told.size() % 2 == 0 && told.size() >= 2 && told.size() <= 24;
        int at = good ? state.at[p] : NONE;
        for (int k = 0; good && k < told.size(); k += 2) {
            int r = told.get(k);
            good = isRoom(r) && land.ways[at][r] > 0 && told.get(k + 1) <= 1;
            at = r;
        }
        if (!good) {
            refused[5]++;
            return NONE;
        }
        errandWays = new ArrayList<>();
        int least = Integer.MAX_VALUE;
        int rows = told.size() / 2;
        // the first way is the highest bit: so the choices come in the order of the document
        for (int choice = 0; choice < 1 << rows; choice++) {
            int minutes = tryErrand(p, told, choice, least);
            if (minutes < least) {
                least = minutes;
                errandWays = new ArrayList<>();
                for (int k = 0; k < rows; k++) {
                    errandWays.add(choice >> (rows - 1 - k) & 1);
                }
            }
        }
        return least == Integer.MAX_VALUE ? NONE : least;
    }

    private int tryErrand(int p, List<Integer> told, int choice, int enough) {
        State s = state.copy();
        int minutes = 0;
        int rows = told.size() / 2;
        for (int k = 0; k < rows && minutes < enough; k++) {
            int from = s.at[p];
            int to = told.get(2 * k);
            boolean with = (choice >> (rows - 1 - k) & 1) == 1;
            if (with && (s.chairAt[p] != from || s.broken[p] || !fitsInto(s, p, to))) {
                return Integer.MAX_VALUE;
            }
            minutes += with ? withChair(p, p, from, to) : land.ways[from][to];
            s.at[p] = to;
            if (with) {
                s.chairAt[p] = to;
            }
            if (told.get(2 * k + 1) == 1 && !sits(s, p)) {
                return Integer.MAX_VALUE;
            }
        }
        return minutes;
    }

    int along(int k) {
        return nth(errandWays, k);
    }

    int seated(int r, int mask) {
        if (!isRoom(r) || mask < 0 || mask >= 1 << people()) {
            return NONE;
        }
        int best = 0;
        for (int some = 255; some > 0; some--) {
            if ((some | mask) == mask && Integer.bitCount(some) >= Integer.bitCount(best) && seats(r, some)) {
                best = some;
            }
        }
        return best;
    }

    private boolean seats(int r, int some) {
        State s = state.copy();
        for (int p = 0; p < people(); p++) {
            if ((some >> p & 1) == 1) {
                if (s.chairAt[p] != r && doorWidth(p) > land.doors.get(r)) {
                    return false;
                }
                s.at[p] = r;
                s.chairAt[p] = r;
            }
        }
        for (int p = 0; p < people(); p++) {
            if ((some >> p & 1) == 1) {
                boolean alone = land.partner[p] != NONE && (some >> land.partner[p] & 1) == 0;
                if (alone || !sits(s, p)) {
                    return false;
                }
            }
        }
        return load(s, r) <= land.floors.get(r);
    }

    int standing() {
        List<Integer> told = used();
        boolean good = told.size() % 2 == 0 && told.size() >= 2 && told.size() <= 16;
        int[] wanted = new int[8];
        Arrays.fill(wanted, NONE);
        for (int k = 0; good && k < told.size(); k += 2) {
            int r = told.get(k);
            good = isRoom(r) && wanted[r] == NONE;
            if (good) {
                wanted[r] = told.get(k + 1);
            }
        }
        if (!good) {
            refused[5]++;
            return NONE;
        }
        whereWays = new int[8][8];
        return tryAll(state.copy(), wanted, 0);
    }

    private int tryAll(State s, int[] wanted, int p) {
        if (p < people()) {
            int ways = 0;
            for (int r = 0; r < rooms(); r++) {
                s.at[p] = r;
                ways += tryAll(s, wanted, p + 1);
            }
            return ways;
        }
        int[] stand = new int[8];
        for (int q = 0; q < people(); q++) {
            stand[s.at[q]] += sits(s, q) ? 0 : 1;
        }
        for (int r = 0; r < 8; r++) {
            if (wanted[r] != NONE && wanted[r] != stand[r]) {
                return 0;
            }
        }
        for (int q = 0; q < people(); q++) {
            whereWays[q][s.at[q]]++;
        }
        return 1;
    }

    int where(int p, int r) {
        return whereWays != null && isPerson(p) && isRoom(r) ? whereWays[p][r] : NONE;
    }

    int image() {
        picture = new ArrayList<>();
        for (int p = 0; p < people(); p++) {
            picture.addAll(List.of(state.at[p], state.chairAt[p], state.broken[p] ? 1 : 0));
            for (int number : new int[] {state.clock[p], state.ache[p]}) {
                picture.addAll(List.of(number / 65536, number / 256 % 256, number % 256));
            }
        }
        picture.add(seal(picture));
        return picture.size();
    }

    private static int seal(List<Integer> bytes) {
        int c = 113;
        for (int octet : bytes) {
            c = (5 * c + octet) % 251;
        }
        return c;
    }

    int octet(int k) {
        return nth(picture, k);
    }

    boolean on() {
        List<Integer> told = used();
        State s = new State();
        boolean good = told.size() == 9 * people() + 1
            && seal(told.subList(0, told.size() - 1)) == told.get(told.size() - 1);
        for (int p = 0; good && p < people(); p++) {
            List<Integer> row = told.subList(9 * p, 9 * p + 9);
            s.at[p] = row.get(0);
            s.chairAt[p] = row.get(1);
            s.broken[p] = row.get(2) == 1;
            s.clock[p] = row.get(3) * 65536 + row.get(4) * 256 + row.get(5);
            s.ache[p] = row.get(6) * 65536 + row.get(7) * 256 + row.get(8);
            good = isRoom(s.at[p]) && isRoom(s.chairAt[p]) && row.get(2) <= 1 && s.clock[p] <= 99999
                && s.ache[p] <= 99999;
        }
        for (int r = 0; good && r < rooms(); r++) {
            good = load(s, r) <= land.floors.get(r);
        }
        if (!good) {
            refused[5]++;
            return false;
        }
        state = s;
        past.clear();
        return true;
    }

    int status(int what) {
        return what >= 0 && what < 6 ? refused[what] : NONE;
    }
}
