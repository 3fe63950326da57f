import java.util.NoSuchElementException;

/** A court of sowing games: kinds, one game, its numbers, its values, plays and records. */
public final class Sowingcourt {
    private static final int MOST_KINDS = 6;
    private static final int FEWEST_HOLES_EACH = 2;
    private static final int MOST_HOLES_EACH = 5;
    private static final int MOST_HOLES = 10;
    private static final int MOST_SEEDS_EACH = 5;
    private static final int MOST_GIVEN = 9;
    private static final int MOST_SEEDS = 90;
    private static final int MOST_SEEDS_ASKED = 50;
    private static final int MOST_LAPS = 100;
    private static final int MOST_DEPTH = 5;
    private static final int MOST_OWN_MOVES = 200;
    private static final int MOST_TYPED = 60;
    private static final int TIMES_TO_END = 3;
    /** An object is used for 512 calls, so no game that counts has more moves. */
    private static final int MOST_MOVES = 512;
    private static final char FREE = '-';
    private static final int NONE = -1;

    private final Kind[] kinds;
    private int kindCount;
    private final Game game;
    /** Plays, records and the proof of soundness are played here, so that the game stays as it is. */
    private final Game trial;
    private final Search search;
    private final Rows rows;
    private final int[] typed;
    private int typedCount;
    private final StringBuilder text;

    public Sowingcourt() {
        kinds = new Kind[MOST_KINDS];
        for (int i = 0; i < MOST_KINDS; i++) {
            kinds[i] = new Kind();
        }
        game = new Game();
        trial = new Game();
        search = new Search(game.kind);
        rows = new Rows();
        typed = new int[MOST_TYPED];
        text = new StringBuilder();
    }

    public int kind(int holes, int seeds, char lap, char capture)
            throws IllegalArgumentException, IllegalStateException {
        if (!isWithin(holes, FEWEST_HOLES_EACH, MOST_HOLES_EACH) || !isWithin(seeds, 1, MOST_SEEDS_EACH)) {
            throw new IllegalArgumentException("a number is out of range");
        }
        if (!Kind.isLap(lap) || !Kind.isCapture(capture)) {
            throw new IllegalArgumentException("there is no such letter");
        }
        needRoomForKind();
        Kind made = kinds[kindCount];
        made.holesEach = holes;
        made.seedsEach = seeds;
        made.lap = lap;
        made.capture = capture;
        kindCount++;
        return kindCount - 1;
    }

    public boolean rule(int kind, char what, boolean holds)
            throws IndexOutOfBoundsException, IllegalArgumentException {
        needKind(kind);
        int index = ruleIndex(what);
        boolean held = kinds[kind].rules[index];
        kinds[kind].rules[index] = holds;
        return held;
    }

    public boolean holds(int kind, char what) throws IndexOutOfBoundsException, IllegalArgumentException {
        needKind(kind);
        return kinds[kind].rules[ruleIndex(what)];
    }

    public int copy(int kind) throws IndexOutOfBoundsException, IllegalStateException {
        needKind(kind);
        needRoomForKind();
        kinds[kindCount].copyFrom(kinds[kind]);
        kindCount++;
        return kindCount - 1;
    }

    public int unlike(int one, int other) throws IndexOutOfBoundsException {
        needKind(one);
        needKind(other);
        return kinds[one].countUnlike(kinds[other]);
    }

    public int parent(int kind) throws IndexOutOfBoundsException, NoSuchElementException {
        needKind(kind);
        if (kind == 0) {
            throw new NoSuchElementException("no kind has a lower number");
        }
        return nearestBelow(kind);
    }

    public int start(int kind) throws IndexOutOfBoundsException {
        needKind(kind);
        game.begin(kinds[kind]);
        return game.now.seedsInHoles();
    }

    public int give(int hole, int seeds) throws IllegalStateException, IndexOutOfBoundsException,
            IllegalArgumentException, UnsupportedOperationException {
        needGameOn();
        needHole(hole);
        if (!isWithin(seeds, 0, MOST_GIVEN)) {
            throw new IllegalArgumentException("the number is out of range");
        }
        if (game.wasMoved) {
            throw new UnsupportedOperationException("there was a move");
        }
        game.handicap(hole, seeds);
        return game.now.seedsInHoles();
    }

    public int move(int hole)
            throws IllegalStateException, IndexOutOfBoundsException, UnsupportedOperationException {
        needGameOn();
        if (game.count >= MOST_MOVES) {
            throw new IllegalStateException("the game has as many moves as are kept");
        }
        needHole(hole);
        int gained = game.advance(hole);
        if (gained == NONE) {
            throw new UnsupportedOperationException("the hole is barred");
        }
        return gained;
    }

    public char barred(int hole) throws IllegalStateException, IndexOutOfBoundsException {
        needGameOn();
        needHole(hole);
        return game.whyBarred(hole);
    }

    public int moves() throws IllegalStateException {
        needGameOn();
        int sum = 0;
        for (int hole = 0; hole < game.kind.holesInAll(); hole++) {
            if (game.whyBarred(hole) == FREE) {
                sum += 1 << hole;
            }
        }
        return sum;
    }

    public int undo() throws UnsupportedOperationException {
        if (!game.begun || game.count == 0) {
            throw new UnsupportedOperationException("there is no move");
        }
        return game.takeBack();
    }

    public int seeds(int hole) throws IllegalStateException, IndexOutOfBoundsException {
        needBegun();
        needHole(hole);
        return game.now.cells[hole];
    }

    public int store(int player) throws IllegalStateException, IndexOutOfBoundsException {
        needBegun();
        if (!isWithin(player, 0, 1)) {
            throw new IndexOutOfBoundsException("there is no such player");
        }
        return game.now.storeOf(player);
    }

    public int turn() throws IllegalStateException {
        needGameOn();
        return game.now.mover();
    }

    public boolean isOver() throws IllegalStateException {
        needBegun();
        return game.over;
    }

    public int winner() throws IllegalStateException, NoSuchElementException {
        needBegun();
        if (!game.over) {
            throw new NoSuchElementException("the game is not over");
        }
        int more = game.now.storeOf(0) - game.now.storeOf(1);
        if (more == 0) {
            return NONE;
        }
        return more > 0 ? 0 : 1;
    }

    public int laps() throws IllegalStateException, NoSuchElementException {
        needBegun();
        if (game.count == 0) {
            throw new NoSuchElementException("there is no move");
        }
        return game.lapsOf[game.count - 1];
    }

    public int length() throws IllegalStateException {
        needBegun();
        return game.count;
    }

    public int times() throws IllegalStateException {
        needBegun();
        return game.timesSeen();
    }

    public long many(int holes, int seeds) throws IllegalArgumentException {
        needRows(holes, seeds);
        return rows.ways[holes][seeds];
    }

    public long number() throws IllegalStateException {
        needBegun();
        return rows.numberOf(game.now);
    }

    public int inRow(int holes, int seeds, long number, int hole)
            throws IllegalArgumentException, IndexOutOfBoundsException {
        needRows(holes, seeds);
        if (number < 0 || number >= rows.ways[holes][seeds]) {
            throw new IllegalArgumentException("there is no such row");
        }
        if (!isWithin(hole, 0, holes - 1)) {
            throw new IndexOutOfBoundsException("there is no such hole");
        }
        return rows.seedsAt(holes, seeds, number, hole);
    }

    public int value(int depth) throws IllegalStateException, IllegalArgumentException {
        needGameOn();
        needDepth(depth, 0);
        if (depth == 0) {
            return game.now.leadOfMover();
        }
        search.weigh(game.now, depth);
        return search.topCount == 0 ? game.now.leadOfMover() : search.top;
    }

    public int best(int depth) throws IllegalStateException, IllegalArgumentException, NoSuchElementException {
        needGameOn();
        needDepth(depth, 1);
        search.weigh(game.now, depth);
        if (search.topCount == 0) {
            throw new NoSuchElementException("all holes are barred");
        }
        return search.firstTop;
    }

    public int blunder(int hole, int depth) throws IllegalStateException, IndexOutOfBoundsException,
            IllegalArgumentException, UnsupportedOperationException {
        needGameOn();
        needHole(hole);
        needDepth(depth, 1);
        search.weigh(game.now, depth);
        if (!search.free[hole]) {
            throw new UnsupportedOperationException("the hole is barred");
        }
        return search.top - search.worth[hole];
    }

    public boolean isPuzzle(int depth) throws IllegalStateException, IllegalArgumentException {
        needGameOn();
        needDepth(depth, 1);
        search.weigh(game.now, depth);
        return search.topCount == 1;
    }

    public int play(int kind, char what) throws IndexOutOfBoundsException, IllegalArgumentException {
        needKind(kind);
        if (what != 'l' && what != 'c' && what != 'd') {
            throw new IllegalArgumentException("there is no such thing");
        }
        trial.begin(kinds[kind]);
        int changes = trial.playByItself();
        if (what == 'l') {
            return trial.count;
        }
        return what == 'c' ? changes : trial.now.storeOf(0) - trial.now.storeOf(1);
    }

    public int type(int hole) throws IllegalArgumentException, IllegalStateException {
        if (!isWithin(hole, 0, MOST_HOLES - 1)) {
            throw new IllegalArgumentException("the hole is out of range");
        }
        if (typedCount >= MOST_TYPED) {
            throw new IllegalStateException("the record is full");
        }
        typed[typedCount] = hole;
        typedCount++;
        return typedCount;
    }

    public int wipe() {
        int had = typedCount;
        typedCount = 0;
        return had;
    }

    public int explains(int kind) throws IndexOutOfBoundsException {
        needKind(kind);
        return countExplained(kind);
    }

    public int explainer() throws NoSuchElementException {
        if (kindCount == 0 || typedCount == 0) {
            throw new NoSuchElementException("there is no kind, or nothing is typed");
        }
        int best = 0;
        int most = countExplained(0);
        for (int kind = 1; kind < kindCount; kind++) {
            int explained = countExplained(kind);
            if (explained > most || explained == most && isNearerToFirst(kind, best)) {
                best = kind;
                most = explained;
            }
        }
        return best;
    }

    public int line() throws IllegalStateException {
        needBegun();
        writePosition();
        return text.length();
    }

    public char sign(int place) throws IllegalStateException, NoSuchElementException {
        needBegun();
        writePosition();
        if (place < 0 || place >= text.length()) {
            throw new NoSuchElementException("there is no such sign");
        }
        return text.charAt(place);
    }

    public long checksum() {
        long sum = 7;
        if (!game.begun) {
            return sum;
        }
        for (int hole = 0; hole < game.kind.holesInAll(); hole++) {
            sum = 31 * sum + game.now.cells[hole];
        }
        sum = 31 * sum + game.now.storeOf(0);
        sum = 31 * sum + game.now.storeOf(1);
        return 31 * sum + game.count;
    }

    public float freeShare() throws IllegalStateException {
        needGameOn();
        int free = 0;
        for (int hole = 0; hole < game.kind.holesInAll(); hole++) {
            if (game.whyBarred(hole) == FREE) {
                free++;
            }
        }
        return (float) free / (float) game.kind.holesEach;
    }

    public double meanUnlike() throws ArithmeticException {
        if (kindCount < 2) {
            throw new ArithmeticException("no kind has a parent");
        }
        int sum = 0;
        for (int kind = 1; kind < kindCount; kind++) {
            sum += kinds[kind].countUnlike(kinds[nearestBelow(kind)]);
        }
        return (double) sum / (double) (kindCount - 1);
    }

    public boolean isSound() {
        return !game.begun || keepsSeeds() && replaysAlike() && rows.leadsBack(game.now);
    }

    private static boolean isWithin(int number, int least, int most) {
        return number >= least && number <= most;
    }

    private static int ruleIndex(char what) {
        int index = Kind.indexOfRule(what);
        if (index == NONE) {
            throw new IllegalArgumentException("there is no such thing");
        }
        return index;
    }

    private void needKind(int kind) {
        if (kind < 0 || kind >= kindCount) {
            throw new IndexOutOfBoundsException("there is no such kind");
        }
    }

    private void needRoomForKind() {
        if (kindCount >= MOST_KINDS) {
            throw new IllegalStateException("there are as many kinds as can be");
        }
    }

    private void needBegun() {
        if (!game.begun) {
            throw new IllegalStateException("no game was begun");
        }
    }

    private void needGameOn() {
        if (!game.begun || game.over) {
            throw new IllegalStateException("no game goes on");
        }
    }

    private void needHole(int hole) {
        if (hole < 0 || hole >= game.kind.holesInAll()) {
            throw new IndexOutOfBoundsException("there is no such hole");
        }
    }

    private static void needDepth(int depth, int least) {
        if (!isWithin(depth, least, MOST_DEPTH)) {
            throw new IllegalArgumentException("the depth is out of range");
        }
    }

    private static void needRows(int holes, int seeds) {
        if (!isWithin(holes, 1, MOST_HOLES) || !isWithin(seeds, 0, MOST_SEEDS_ASKED)) {
            throw new IllegalArgumentException("a number is out of range");
        }
    }

    /** The kind is not kind 0, which has no parent. */
    private int nearestBelow(int kind) {
        int nearest = 0;
        for (int lower = 1; lower < kind; lower++) {
            if (kinds[kind].countUnlike(kinds[lower]) < kinds[kind].countUnlike(kinds[nearest])) {
                nearest = lower;
            }
        }
        return nearest;
    }

    private boolean isNearerToFirst(int kind, int other) {
        return kinds[kind].countUnlike(kinds[0]) < kinds[other].countUnlike(kinds[0]);
    }

    private int countExplained(int kind) {
        trial.begin(kinds[kind]);
        int explained = 0;
        while (explained < typedCount && trial.advance(typed[explained]) != NONE) {
            explained++;
        }
        return explained;
    }

    private void writePosition() {
        text.setLength(0);
        for (int hole = 0; hole < game.kind.holesInAll(); hole++) {
            if (hole == game.kind.holesEach) {
                text.append('/');
            }
            text.append(game.now.cells[hole]).append(' ');
        }
        text.append(game.now.storeOf(0)).append(' ').append(game.now.storeOf(1));
    }

    private boolean keepsSeeds() {
        int had = 0;
        for (int hole = 0; hole < game.kind.holesInAll(); hole++) {
            had += game.past[hole];
        }
        return had == game.now.seedsInHoles() + game.now.storeOf(0) + game.now.storeOf(1);
    }

    private boolean replaysAlike() {
        trial.beginLike(game);
        for (int i = 0; i < game.count; i++) {
            if (trial.advance(game.played[i]) == NONE) {
                return false;
            }
        }
        return trial.over == game.over && trial.now.isLike(game.now);
    }

    /** The nine things of a kind; a game has a copy, since kinds are changed while games go on. */
    private static final class Kind {
        static final int OWN_STORES = 0;
        static final int SKIPPED_ORIGIN = 1;
        static final int NO_GRAND_SLAM = 2;
        static final int FEEDING = 3;
        static final int EXTRA_TURNS = 4;
        static final int RULES = 5;

        int holesEach = FEWEST_HOLES_EACH;
        int seedsEach = 1;
        char lap = 's';
        char capture = 'n';
        final boolean[] rules = new boolean[RULES];

        static boolean isLap(char letter) {
            return letter == 's' || letter == 'r' || letter == 'p';
        }

        static boolean isCapture(char letter) {
            return letter == 'n' || letter == 'o' || letter == 'c' || letter == 'e';
        }

        static int indexOfRule(char letter) {
            switch (letter) {
                case 's': return OWN_STORES;
                case 'o': return SKIPPED_ORIGIN;
                case 'g': return NO_GRAND_SLAM;
                case 'f': return FEEDING;
                case 'x': return EXTRA_TURNS;
                default: return NONE;
            }
        }

        int holesInAll() {
            return 2 * holesEach;
        }

        void copyFrom(Kind other) {
            holesEach = other.holesEach;
            seedsEach = other.seedsEach;
            lap = other.lap;
            capture = other.capture;
            for (int i = 0; i < RULES; i++) {
                rules[i] = other.rules[i];
            }
        }

        int countUnlike(Kind other) {
            int count = 0;
            count += holesEach != other.holesEach ? 1 : 0;
            count += seedsEach != other.seedsEach ? 1 : 0;
            count += lap != other.lap ? 1 : 0;
            count += capture != other.capture ? 1 : 0;
            for (int i = 0; i < RULES; i++) {
                count += rules[i] != other.rules[i] ? 1 : 0;
            }
            return count;
        }
    }

    /** A position, and how the move was sown that led to it. */
    private static final class Board {
        /** The cells are the holes, both stores and whose turn it is, one row, so that it is copied at once. */
        static final int STORES = MOST_HOLES;
        static final int TURN = MOST_HOLES + 2;
        static final int SIZE = MOST_HOLES + 3;

        final Kind kind;
        final int[] cells = new int[SIZE];
        int lapCount;
        int last;

        Board(Kind kind) {
            this.kind = kind;
        }

        void setUp() {
            for (int cell = 0; cell < SIZE; cell++) {
                cells[cell] = cell < kind.holesInAll() ? kind.seedsEach : 0;
            }
        }

        void copyFrom(int[] row, int from) {
            System.arraycopy(row, from, cells, 0, SIZE);
        }

        boolean isLike(Board other) {
            for (int cell = 0; cell < SIZE; cell++) {
                if (cells[cell] != other.cells[cell]) {
                    return false;
                }
            }
            return true;
        }

        int mover() {
            return cells[TURN];
        }

        int storeOf(int player) {
            return cells[STORES + player];
        }

        int firstHoleOf(int player) {
            return player * kind.holesEach;
        }

        boolean isOfMover(int hole) {
            int first = cells[TURN] * kind.holesEach;
            return hole >= first && hole < first + kind.holesEach;
        }

        int seedsOf(int player) {
            int sum = 0;
            int first = player * kind.holesEach;
            for (int hole = first; hole < first + kind.holesEach; hole++) {
                sum += cells[hole];
            }
            return sum;
        }

        int seedsInHoles() {
            return seedsOf(0) + seedsOf(1);
        }

        int leadOfMover() {
            return storeOf(mover()) - storeOf(1 - mover());
        }

        int leadOfMoverAtEnd() {
            return leadOfMover() + seedsOf(mover()) - seedsOf(1 - mover());
        }

        void endGame() {
            for (int player = 0; player < 2; player++) {
                cells[STORES + player] += seedsOf(player);
            }
            for (int hole = 0; hole < kind.holesInAll(); hole++) {
                cells[hole] = 0;
            }
        }

        /** Why a hole is barred; if it is not, the other board comes to the position behind the move. */
        char whyBarred(int hole, Board behind) {
            if (!isOfMover(hole)) {
                return 'o';
            }
            if (cells[hole] == 0) {
                return 'e';
            }
            behind.copyFrom(cells, 0);
            if (!behind.sowsToAnEnd(hole)) {
                return 'l';
            }
            behind.takeCaptured();
            int other = 1 - mover();
            if (kind.rules[Kind.FEEDING] && seedsOf(other) == 0 && behind.seedsOf(other) == 0) {
                return 'f';
            }
            behind.passTurn();
            return FREE;
        }

        boolean isStuck(Board scratch) {
            int first = firstHoleOf(mover());
            for (int hole = first; hole < first + kind.holesEach; hole++) {
                if (whyBarred(hole, scratch) == FREE) {
                    return false;
                }
            }
            return true;
        }

        private boolean sowsToAnEnd(int hole) {
            boolean isSkipped = kind.rules[Kind.SKIPPED_ORIGIN];
            int origin = hole;
            for (lapCount = 1; lapCount <= MOST_LAPS; lapCount++) {
                int hand = cells[origin];
                cells[origin] = 0;
                last = origin;
                for (; hand > 0; hand--) {
                    last = placeBehind(last);
                    if (last == origin && isSkipped) {
                        last = placeBehind(last);
                    }
                    cells[last]++;
                }
                origin = nextOrigin();
                if (origin == NONE) {
                    return true;
                }
            }
            return false;
        }

        private int placeBehind(int place) {
            int lastOwn = (cells[TURN] + 1) * kind.holesEach - 1;
            if (place == lastOwn && kind.rules[Kind.OWN_STORES]) {
                return STORES + cells[TURN];
            }
            int hole = place >= STORES ? lastOwn : place;
            return hole + 1 < 2 * kind.holesEach ? hole + 1 : 0;
        }

        private int nextOrigin() {
            if (last >= STORES) {
                return NONE;
            }
            if (kind.lap == 'r') {
                return cells[last] > 1 ? last : NONE;
            }
            int behind = last + 1 < 2 * kind.holesEach ? last + 1 : 0;
            return kind.lap == 'p' && cells[behind] > 0 ? behind : NONE;
        }

        private void takeCaptured() {
            int lowest = last < STORES ? lowestCaught(isOfMover(last)) : NONE;
            if (lowest == NONE) {
                return;
            }
            boolean byOpposite = kind.capture == 'o';
            int highest = byOpposite ? lowest : last;
            int caught = 0;
            for (int hole = lowest; hole <= highest; hole++) {
                caught += cells[hole];
            }
            if (kind.rules[Kind.NO_GRAND_SLAM] && caught == seedsOf(1 - mover())) {
                return;
            }
            for (int hole = lowest; hole <= highest; hole++) {
                cells[hole] = 0;
            }
            if (byOpposite) {
                caught += cells[last];
                cells[last] = 0;
            }
            cells[STORES + mover()] += caught;
        }

        /** What is captured there is a row of holes with a known last one, so its lowest hole tells it. */
        private int lowestCaught(boolean own) {
            if (kind.capture == 'o') {
                int opposite = 2 * kind.holesEach - 1 - last;
                return own && cells[last] == 1 && cells[opposite] > 0 ? opposite : NONE;
            }
            if (kind.capture == 'e') {
                return !own && cells[last] % 2 == 0 ? last : NONE;
            }
            if (own || kind.capture != 'c') {
                return NONE;
            }
            int lowest = NONE;
            int first = (1 - cells[TURN]) * kind.holesEach;
            for (int hole = last; hole >= first && (cells[hole] == 2 || cells[hole] == 3); hole--) {
                lowest = hole;
            }
            return lowest;
        }

        private void passTurn() {
            if (last < STORES || !kind.rules[Kind.EXTRA_TURNS]) {
                cells[TURN] = 1 - mover();
            }
        }
    }

    /** A game of a kind, with all positions that it came to. */
    private static final class Game {
        final Kind kind = new Kind();
        final Board now = new Board(kind);
        final Board next = new Board(kind);
        /** One row of cells behind the other, each as it was ahead of an end. */
        final int[] past = new int[(MOST_MOVES + 1) * Board.SIZE];
        final int[] played = new int[MOST_MOVES];
        final int[] lapsOf = new int[MOST_MOVES];
        int count;
        boolean begun;
        boolean over;
        boolean wasMoved;

        void begin(Kind model) {
            kind.copyFrom(model);
            now.setUp();
            restart();
        }

        void beginLike(Game other) {
            kind.copyFrom(other.kind);
            now.copyFrom(other.past, 0);
            restart();
        }

        void handicap(int hole, int seeds) {
            now.cells[hole] = seeds;
            remember();
        }

        char whyBarred(int hole) {
            return now.whyBarred(hole, next);
        }

        /** Moves, and answers what came into the mover's store, NONE if that hole can't be played. */
        int advance(int hole) {
            if (over || count >= MOST_MOVES || whyBarred(hole) != FREE) {
                return NONE;
            }
            int gained = gainOf(now.mover());
            played[count] = hole;
            lapsOf[count] = next.lapCount;
            count++;
            wasMoved = true;
            now.copyFrom(next.cells, 0);
            remember();
            if (now.isStuck(next) || timesSeen() >= TIMES_TO_END) {
                over = true;
                now.endGame();
            }
            return gained;
        }

        int takeBack() {
            count--;
            over = false;
            now.copyFrom(past, count * Board.SIZE);
            return played[count];
        }

        /** How often the last position was there; stores never shrink, so none is ahead of other stores. */
        int timesSeen() {
            int seen = 0;
            for (int i = count; i >= 0 && hasLastCells(i, Board.STORES, Board.TURN); i--) {
                if (hasLastCells(i, 0, Board.SIZE)) {
                    seen++;
                }
            }
            return seen;
        }

        /** Plays on by itself, and answers how often the lead changes. */
        int playByItself() {
            int changes = 0;
            int leader = NONE;
            int hole = greediest();
            for (int i = 0; i < MOST_OWN_MOVES && hole != NONE; i++) {
                advance(hole);
                int more = now.storeOf(0) - now.storeOf(1);
                if (more != 0) {
                    int ahead = more > 0 ? 0 : 1;
                    changes += leader == 1 - ahead ? 1 : 0;
                    leader = ahead;
                }
                hole = over ? NONE : greediest();
            }
            return changes;
        }

        private int greediest() {
            int best = NONE;
            int most = NONE;
            for (int hole = 0; hole < kind.holesInAll(); hole++) {
                if (whyBarred(hole) == FREE && gainOf(now.mover()) > most) {
                    best = hole;
                    most = gainOf(now.mover());
                }
            }
            return best;
        }

        private int gainOf(int player) {
            return next.storeOf(player) - now.storeOf(player);
        }

        private void restart() {
            count = 0;
            begun = true;
            over = false;
            wasMoved = false;
            remember();
        }

        private void remember() {
            System.arraycopy(now.cells, 0, past, count * Board.SIZE, Board.SIZE);
        }

        private boolean hasLastCells(int index, int from, int to) {
            for (int cell = from; cell < to; cell++) {
                if (past[index * Board.SIZE + cell] != past[count * Board.SIZE + cell]) {
                    return false;
                }
            }
            return true;
        }
    }

    /** Looks some moves ahead, on boards of its own. */
    private static final class Search {
        /** Less than each value, and its negative more: no more than 90 seeds are in a game. */
        private static final int BELOW_ALL = -1000;

        final Board[] levels = new Board[MOST_DEPTH + 1];
        final boolean[] free = new boolean[MOST_HOLES];
        final int[] worth = new int[MOST_HOLES];
        int top;
        int firstTop;
        /** How many holes come to the top; none only if all are barred. */
        int topCount;

        Search(Kind kind) {
            for (int i = 0; i <= MOST_DEPTH; i++) {
                levels[i] = new Board(kind);
            }
        }

        /** Blunders need the value by each hole, so each is looked at in full; the depth is 1 to 5. */
        void weigh(Board root, int depth) {
            topCount = 0;
            top = BELOW_ALL;
            for (int hole = 0; hole < root.kind.holesInAll(); hole++) {
                free[hole] = root.whyBarred(hole, levels[0]) == FREE;
                if (free[hole]) {
                    int found = look(levels, 0, depth - 1, BELOW_ALL, -BELOW_ALL);
                    worth[hole] = levels[0].mover() == root.mover() ? found : -found;
                    rank(hole);
                }
            }
        }

        private void rank(int hole) {
            if (worth[hole] > top) {
                top = worth[hole];
                firstTop = hole;
                topCount = 1;
            } else if (worth[hole] == top) {
                topCount++;
            }
        }

        /** The value for the mover on a level; what is outside of low and high is told only as that. */
        private static int look(Board[] levels, int level, int left, int low, int high) {
            Board here = levels[level];
            Board behind = levels[level + 1];
            if (left <= 0 || level + 2 >= levels.length) {
                return here.isStuck(behind) ? here.leadOfMoverAtEnd() : here.leadOfMover();
            }
            int best = BELOW_ALL;
            int first = here.firstHoleOf(here.mover());
            for (int hole = first; hole < first + here.kind.holesEach && best < high; hole++) {
                if (here.whyBarred(hole, behind) == FREE) {
                    int least = Math.max(low, best);
                    int found = behind.mover() == here.mover()
                            ? look(levels, level + 1, left - 1, least, high)
                            : -look(levels, level + 1, left - 1, -high, -least);
                    best = Math.max(best, found);
                }
            }
            return best == BELOW_ALL ? here.leadOfMoverAtEnd() : best;
        }
    }

    /** Rows of holes in the order of their numbers. */
    private static final class Rows {
        /** How many rows there are of so many holes with so many seeds. */
        final long[][] ways = new long[MOST_HOLES + 1][MOST_SEEDS + 1];

        Rows() {
            ways[0][0] = 1;
            for (int holes = 1; holes <= MOST_HOLES; holes++) {
                ways[holes][0] = ways[holes - 1][0];
                for (int seeds = 1; seeds <= MOST_SEEDS; seeds++) {
                    ways[holes][seeds] = ways[holes][seeds - 1] + ways[holes - 1][seeds];
                }
            }
        }

        long numberOf(Board board) {
            int holes = board.kind.holesInAll();
            int left = board.seedsInHoles();
            long ahead = 0;
            for (int hole = 0; hole < holes; hole++) {
                for (int fewer = 0; fewer < board.cells[hole]; fewer++) {
                    ahead += ways[holes - 1 - hole][left - fewer];
                }
                left -= board.cells[hole];
            }
            return ahead;
        }

        int seedsAt(int holes, int seeds, long number, int hole) {
            long ahead = number;
            int left = seeds;
            int found = 0;
            for (int place = 0; place <= hole; place++) {
                left -= found;
                found = 0;
                while (found < left && ahead >= ways[holes - 1 - place][left - found]) {
                    ahead -= ways[holes - 1 - place][left - found];
                    found++;
                }
            }
            return found;
        }

        boolean leadsBack(Board board) {
            int holes = board.kind.holesInAll();
            int seeds = board.seedsInHoles();
            long number = numberOf(board);
            for (int hole = 0; hole < holes; hole++) {
                if (seedsAt(holes, seeds, number, hole) != board.cells[hole]) {
                    return false;
                }
            }
            return true;
        }
    }
}
