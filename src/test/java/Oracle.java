import java.math.BigInteger;
import java.util.ArrayList;
import java.util.Collections;
import java.util.List;
import java.util.NoSuchElementException;

/**
 * The document once more, told slowly: it keeps only the moves of the game and plays them all again for every
 * answer, so that it shares no way of thinking with the program.
 */
final class Oracle {
    private static final int STORE = 100;

    record Kind(int h, int seeds, char lap, char capture, String rules) {
        boolean has(char what) {
            return rules.indexOf(what) >= 0;
        }
    }

    record Position(List<Integer> holes, int store0, int store1, int turn) {
        int store(int player) {
            return player == 0 ? store0 : store1;
        }

        int side(int player) {
            int h = holes.size() / 2;
            return holes.subList(player * h, player * h + h).stream().mapToInt(Integer::intValue).sum();
        }

        Position ended() {
            return new Position(Collections.nCopies(holes.size(), 0), store0 + side(0), store1 + side(1), turn);
        }
    }

    /** A move that was tried: the letter why it is barred, or where it leads to. */
    record Tried(char barred, Position behind, int laps) { }

    private final List<Kind> kinds = new ArrayList<>();
    private final List<Integer> record = new ArrayList<>();
    private Kind kind;
    private List<Integer> given;
    private final List<Integer> played = new ArrayList<>();
    private boolean touched;

    // ---- kinds

    int kind(int holes, int seeds, char lap, char capture) {
        if (holes < 2 || holes > 5 || seeds < 1 || seeds > 5 || "srp".indexOf(lap) < 0
                || "noce".indexOf(capture) < 0) {
            throw new IllegalArgumentException();
        }
        return add(new Kind(holes, seeds, lap, capture, ""));
    }

    private int add(Kind made) {
        if (kinds.size() == 6) {
            throw new IllegalStateException();
        }
        kinds.add(made);
        return kinds.size() - 1;
    }

    private Kind at(int number) {
        if (number < 0 || number >= kinds.size()) {
            throw new IndexOutOfBoundsException();
        }
        return kinds.get(number);
    }

    boolean holds(int number, char what) {
        Kind it = at(number);
        if ("sogfx".indexOf(what) < 0) {
            throw new IllegalArgumentException();
        }
        return it.has(what);
    }

    boolean rule(int number, char what, boolean holds) {
        boolean held = holds(number, what);
        Kind it = at(number);
        String without = it.rules.replace(String.valueOf(what), "");
        kinds.set(number, new Kind(it.h, it.seeds, it.lap, it.capture, holds ? without + what : without));
        return held;
    }

    int copy(int number) {
        return add(at(number));
    }

    int unlike(int one, int other) {
        Kind a = at(one);
        Kind b = at(other);
        int count = (a.h == b.h ? 0 : 1) + (a.seeds == b.seeds ? 0 : 1) + (a.lap == b.lap ? 0 : 1)
                + (a.capture == b.capture ? 0 : 1);
        for (char what : "sogfx".toCharArray()) {
            count += a.has(what) == b.has(what) ? 0 : 1;
        }
        return count;
    }

    int parent(int number) {
        at(number);
        int found = -1;
        for (int fewest = 0; fewest <= 9; fewest++) {
            for (int lower = number - 1; lower >= 0; lower--) {
                if (unlike(number, lower) == fewest) {
                    found = lower;
                }
            }
            if (found >= 0) {
                return found;
            }
        }
        throw new NoSuchElementException();
    }

    double meanUnlike() {
        double sum = 0;
        int count = 0;
        for (int i = 1; i < kinds.size(); i++) {
            sum += unlike(i, parent(i));
            count++;
        }
        if (count == 0) {
            throw new ArithmeticException();
        }
        return sum / count;
    }

    // ---- one move

    static Tried attempt(Kind k, Position from, int hole) {
        int all = 2 * k.h;
        int me = from.turn;
        if (hole / k.h != me) {
            return new Tried('o', null, 0);
        }
        if (from.holes.get(hole) == 0) {
            return new Tried('e', null, 0);
        }
        List<Integer> ring = new ArrayList<>();
        for (int i = 0; i < all; i++) {
            ring.add(i);
            if (k.has('s') && i == me * k.h + k.h - 1) {
                ring.add(STORE);
            }
        }
        int[] holes = from.holes.stream().mapToInt(Integer::intValue).toArray();
        int store = from.store(me);
        int origin = hole;
        int last = -1;
        int laps = 0;
        while (true) {
            if (laps == 100) {
                return new Tried('l', null, 0);
            }
            laps++;
            int hand = holes[origin];
            holes[origin] = 0;
            int at = ring.indexOf(origin);
            while (hand > 0) {
                at++;
                last = ring.get(at % ring.size());
                if (last == origin && k.has('o')) {
                    continue;
                }
                hand--;
                if (last == STORE) {
                    store++;
                } else {
                    holes[last]++;
                }
            }
            if (last != STORE && k.lap == 'r' && holes[last] >= 2) {
                origin = last;
            } else if (last != STORE && k.lap == 'p' && holes[(last + 1) % all] >= 1) {
                origin = (last + 1) % all;
            } else {
                break;
            }
        }
        if (last != STORE) {
            store += captured(k, holes, last, me);
        }
        List<Integer> after = new ArrayList<>();
        for (int seeds : holes) {
            after.add(seeds);
        }
        int turn = last == STORE && k.has('x') ? me : 1 - me;
        Position behind = me == 0 ? new Position(after, store, from.store1, turn)
                : new Position(after, from.store0, store, turn);
        if (k.has('f') && from.side(1 - me) == 0 && behind.side(1 - me) == 0) {
            return new Tried('f', null, 0);
        }
        return new Tried('-', behind, laps);
    }

    private static int captured(Kind k, int[] holes, int last, int me) {
        int[] left = holes.clone();
        int all = 2 * k.h;
        boolean own = last / k.h == me;
        int opposite = all - 1 - last;
        if (k.capture == 'o' && own && left[last] == 1 && left[opposite] > 0) {
            left[last] = 0;
            left[opposite] = 0;
        } else if (k.capture == 'e' && !own && left[last] % 2 == 0) {
            left[last] = 0;
        } else if (k.capture == 'c') {
            int at = last;
            while (at >= 0 && at / k.h != me && (left[at] == 2 || left[at] == 3)) {
                left[at] = 0;
                at--;
            }
        }
        int taken = 0;
        int others = 0;
        for (int i = 0; i < all; i++) {
            taken += holes[i] - left[i];
            others += i / k.h == me ? 0 : left[i];
        }
        if (taken > 0 && others == 0 && k.has('g')) {
            return 0;
        }
        System.arraycopy(left, 0, holes, 0, all);
        return taken;
    }

    static boolean stuck(Kind k, Position p) {
        for (int hole = 0; hole < 2 * k.h; hole++) {
            if (attempt(k, p, hole).barred == '-') {
                return false;
            }
        }
        return true;
    }

    // ---- a game: what it was begun with, and its moves

    /** All positions of a row of moves, each as it was ahead of an end; null if one can't be played. */
    static List<Position> path(Kind k, Position first, List<Integer> moves) {
        List<Position> path = new ArrayList<>();
        path.add(first);
        for (int hole : moves) {
            Position here = path.get(path.size() - 1);
            if (ends(k, path) || hole >= 2 * k.h || attempt(k, here, hole).barred != '-') {
                return null;
            }
            path.add(attempt(k, here, hole).behind);
        }
        return path;
    }

    static boolean ends(Kind k, List<Position> path) {
        if (path.size() == 1) {
            return false;
        }
        Position last = path.get(path.size() - 1);
        return stuck(k, last) || Collections.frequency(path, last) >= 3;
    }

    private Position first() {
        return new Position(given, 0, 0, 0);
    }

    private List<Position> path() {
        return path(kind, first(), played);
    }

    private Position last() {
        List<Position> path = path();
        return path.get(path.size() - 1);
    }

    private Position shown() {
        return isOver() ? last().ended() : last();
    }

    private void begun() {
        if (kind == null) {
            throw new IllegalStateException();
        }
    }

    private void goesOn() {
        if (kind == null || isOver()) {
            throw new IllegalStateException();
        }
    }

    private void hole(int hole) {
        if (hole < 0 || hole >= 2 * kind.h) {
            throw new IndexOutOfBoundsException();
        }
    }

    int start(int number) {
        kind = at(number);
        given = new ArrayList<>(Collections.nCopies(2 * kind.h, kind.seeds));
        played.clear();
        touched = false;
        return 2 * kind.h * kind.seeds;
    }

    int give(int hole, int seeds) {
        goesOn();
        hole(hole);
        if (seeds < 0 || seeds > 9) {
            throw new IllegalArgumentException();
        }
        if (touched) {
            throw new UnsupportedOperationException();
        }
        given.set(hole, seeds);
        return first().side(0) + first().side(1);
    }

    int move(int hole) {
        goesOn();
        hole(hole);
        Position from = last();
        Tried tried = attempt(kind, from, hole);
        if (tried.barred != '-') {
            throw new UnsupportedOperationException();
        }
        played.add(hole);
        touched = true;
        return tried.behind.store(from.turn) - from.store(from.turn);
    }

    char barred(int hole) {
        goesOn();
        hole(hole);
        return attempt(kind, last(), hole).barred;
    }

    int moves() {
        goesOn();
        int sum = 0;
        for (int hole = 2 * kind.h - 1; hole >= 0; hole--) {
            sum = 2 * sum + (barred(hole) == '-' ? 1 : 0);
        }
        return sum;
    }

    int undo() {
        if (kind == null || played.isEmpty()) {
            throw new UnsupportedOperationException();
        }
        return played.remove(played.size() - 1);
    }

    int seeds(int hole) {
        begun();
        hole(hole);
        return shown().holes.get(hole);
    }

    int store(int player) {
        begun();
        if (player != 0 && player != 1) {
            throw new IndexOutOfBoundsException();
        }
        return shown().store(player);
    }

    int turn() {
        goesOn();
        return last().turn;
    }

    boolean isOver() {
        begun();
        return ends(kind, path());
    }

    int winner() {
        if (!isOver()) {
            throw new NoSuchElementException();
        }
        int sign = Integer.signum(shown().store0 - shown().store1);
        return sign == 0 ? -1 : (1 - sign) / 2;
    }

    int laps() {
        begun();
        if (played.isEmpty()) {
            throw new NoSuchElementException();
        }
        Position from = path().get(played.size() - 1);
        return attempt(kind, from, played.get(played.size() - 1)).laps;
    }

    int length() {
        begun();
        return played.size();
    }

    int times() {
        begun();
        return Collections.frequency(path(), last());
    }

    // ---- numbers

    static BigInteger rows(int holes, int seeds) {
        if (holes == 0) {
            return seeds == 0 ? BigInteger.ONE : BigInteger.ZERO;
        }
        BigInteger up = BigInteger.ONE;
        for (int i = 1; i < holes; i++) {
            up = up.multiply(BigInteger.valueOf(seeds + i)).divide(BigInteger.valueOf(i));
        }
        return up;
    }

    long many(int holes, int seeds) {
        if (holes < 1 || holes > 10 || seeds < 0 || seeds > 50) {
            throw new IllegalArgumentException();
        }
        return rows(holes, seeds).longValueExact();
    }

    long number() {
        begun();
        List<Integer> row = shown().holes;
        int left = row.stream().mapToInt(Integer::intValue).sum();
        BigInteger ahead = BigInteger.ZERO;
        for (int i = 0; i < row.size(); i++) {
            for (int fewer = 0; fewer < row.get(i); fewer++) {
                ahead = ahead.add(rows(row.size() - i - 1, left - fewer));
            }
            left -= row.get(i);
        }
        return ahead.longValueExact();
    }

    int inRow(int holes, int seeds, long number, int hole) {
        if (number < 0 || number >= many(holes, seeds)) {
            throw new IllegalArgumentException();
        }
        if (hole < 0 || hole >= holes) {
            throw new IndexOutOfBoundsException();
        }
        return row(holes, seeds, BigInteger.valueOf(number)).get(hole);
    }

    private static List<Integer> row(int holes, int seeds, BigInteger number) {
        if (holes == 0) {
            return new ArrayList<>();
        }
        BigInteger rest = number;
        for (int first = 0; first <= seeds; first++) {
            BigInteger with = rows(holes - 1, seeds - first);
            if (rest.compareTo(with) < 0) {
                List<Integer> row = new ArrayList<>(List.of(first));
                row.addAll(row(holes - 1, seeds - first, rest));
                return row;
            }
            rest = rest.subtract(with);
        }
        throw new AssertionError("no such row");
    }

    // ---- play to a depth

    private static int worth(Kind k, Position p, int depth, int me) {
        if (stuck(k, p)) {
            return p.ended().store(me) - p.ended().store(1 - me);
        }
        if (depth == 0) {
            return p.store(me) - p.store(1 - me);
        }
        int best = p.turn == me ? -9999 : 9999;
        for (int hole = 0; hole < 2 * k.h; hole++) {
            Tried tried = attempt(k, p, hole);
            if (tried.barred == '-') {
                int found = worth(k, tried.behind, depth - 1, me);
                best = p.turn == me ? Math.max(best, found) : Math.min(best, found);
            }
        }
        return best;
    }

    private void depth(int depth, int least) {
        if (depth < least || depth > 5) {
            throw new IllegalArgumentException();
        }
    }

    private int by(int hole, int depth) {
        Tried tried = attempt(kind, last(), hole);
        return worth(kind, tried.behind, depth - 1, last().turn);
    }

    int value(int depth) {
        goesOn();
        depth(depth, 0);
        Position p = last();
        return stuck(kind, p) ? p.store(p.turn) - p.store(1 - p.turn) : worth(kind, p, depth, p.turn);
    }

    int best(int depth) {
        goesOn();
        depth(depth, 1);
        int value = value(depth);
        for (int hole = 0; hole < 2 * kind.h; hole++) {
            if (barred(hole) == '-' && by(hole, depth) == value) {
                return hole;
            }
        }
        throw new NoSuchElementException();
    }

    int blunder(int hole, int depth) {
        goesOn();
        hole(hole);
        depth(depth, 1);
        if (barred(hole) != '-') {
            throw new UnsupportedOperationException();
        }
        return value(depth) - by(hole, depth);
    }

    boolean isPuzzle(int depth) {
        goesOn();
        depth(depth, 1);
        int value = value(depth);
        int count = 0;
        for (int hole = 0; hole < 2 * kind.h; hole++) {
            count += barred(hole) == '-' && by(hole, depth) == value ? 1 : 0;
        }
        return count == 1;
    }

    // ---- plays and records

    private static Position startOf(Kind k) {
        return new Position(Collections.nCopies(2 * k.h, k.seeds), 0, 0, 0);
    }

    int play(int number, char what) {
        Kind k = at(number);
        if ("lcd".indexOf(what) < 0) {
            throw new IllegalArgumentException();
        }
        List<Position> path = new ArrayList<>(List.of(startOf(k)));
        List<Integer> leads = new ArrayList<>();
        boolean over = stuck(k, path.get(0));
        while (!over && path.size() <= 200) {
            Position here = path.get(path.size() - 1);
            Position taken = null;
            for (int hole = 0; hole < 2 * k.h; hole++) {
                Tried tried = attempt(k, here, hole);
                if (tried.barred == '-'
                        && (taken == null || tried.behind.store(here.turn) > taken.store(here.turn))) {
                    taken = tried.behind;
                }
            }
            path.add(taken);
            over = ends(k, path);
            Position seen = over ? taken.ended() : taken;
            leads.add(seen.store0 - seen.store1);
        }
        if (what == 'l') {
            return path.size() - 1;
        }
        if (what == 'd') {
            return leads.isEmpty() ? 0 : leads.get(leads.size() - 1);
        }
        leads.removeIf(lead -> lead == 0);
        int changes = 0;
        for (int i = 1; i < leads.size(); i++) {
            changes += leads.get(i) > 0 == leads.get(i - 1) > 0 ? 0 : 1;
        }
        return changes;
    }

    int type(int hole) {
        if (hole < 0 || hole > 9) {
            throw new IllegalArgumentException();
        }
        if (record.size() == 60) {
            throw new IllegalStateException();
        }
        record.add(hole);
        return record.size();
    }

    int wipe() {
        int had = record.size();
        record.clear();
        return had;
    }

    int explains(int number) {
        Kind k = at(number);
        int explained = 0;
        while (explained < record.size() && path(k, startOf(k), record.subList(0, explained + 1)) != null) {
            explained++;
        }
        return explained;
    }

    int explainer() {
        if (kinds.isEmpty() || record.isEmpty()) {
            throw new NoSuchElementException();
        }
        int best = 0;
        for (int i = 1; i < kinds.size(); i++) {
            int more = explains(i) - explains(best);
            if (more > 0 || more == 0 && unlike(i, 0) < unlike(best, 0)) {
                best = i;
            }
        }
        return best;
    }

    // ---- written

    private String written() {
        Position p = shown();
        StringBuilder text = new StringBuilder();
        for (int seeds : p.holes.subList(0, kind.h)) {
            text.append(seeds + " ");
        }
        text.append("/");
        for (int seeds : p.holes.subList(kind.h, 2 * kind.h)) {
            text.append(seeds + " ");
        }
        return text + "" + p.store0 + " " + p.store1;
    }

    int line() {
        begun();
        return written().length();
    }

    char sign(int place) {
        begun();
        if (place < 0 || place >= written().length()) {
            throw new NoSuchElementException();
        }
        return written().charAt(place);
    }

    long checksum() {
        if (kind == null) {
            return 7;
        }
        BigInteger sum = BigInteger.valueOf(7);
        List<Integer> parts = new ArrayList<>(shown().holes);
        parts.addAll(List.of(shown().store0, shown().store1, played.size()));
        for (int part : parts) {
            sum = sum.multiply(BigInteger.valueOf(31)).add(BigInteger.valueOf(part));
        }
        return sum.longValue();
    }

    float freeShare() {
        goesOn();
        return (float) Integer.bitCount(moves()) / (float) kind.h;
    }

    boolean isSound() {
        return true;
    }
}
