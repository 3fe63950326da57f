import java.util.NoSuchElementException;

/** Moves of exactly 100 laps, of more that come to an end, and of more that never do. */
public final class LapLimitTest {
    private static final Due due = new Due("LapLimitTest");
    /** Each row: the laps that the move has without a limit, its hole, and the seeds of the holes. */
    private static final int[][] BY_R = {
        {99, 0, 4, 5, 6, 1, 4, 1}, {100, 2, 7, 5, 9, 0, 6, 3}, {101, 0, 2, 2, 6, 2, 4, 5}, {102, 2, 3, 2, 8, 1, 5, 6},
        {101, 0, 8, 3, 7, 8}, {99, 1, 1, 2, 3, 8, 3, 8, 5, 0}, {100, 0, 5, 2, 4, 5, 4, 1, 4, 3},
        {101, 1, 3, 2, 4, 4, 0, 4, 3, 2}, {102, 1, 3, 5, 0, 1, 5, 2, 1, 0}, {99, 1, 2, 5, 5, 4, 1, 0, 1, 4, 1, 5},
        {100, 0, 2, 2, 5, 5, 6, 2, 1, 1, 4, 1}, {101, 3, 1, 3, 4, 5, 3, 0, 5, 2, 1, 0},
        {102, 1, 3, 4, 0, 3, 0, 1, 2, 4, 1, 6}};
    private static final int[][] BY_P = {
        {99, 2, 4, 1, 3, 5, 6, 1}, {100, 0, 6, 2, 4, 5, 0, 3}, {101, 0, 1, 3, 9, 1, 9, 4}, {102, 0, 4, 3, 0, 5, 7, 6},
        {101, 0, 7, 3, 7, 8}, {99, 0, 1, 0, 8, 2, 3, 5, 6, 3}, {100, 3, 3, 2, 1, 1, 2, 3, 3, 6},
        {101, 0, 6, 0, 4, 3, 0, 3, 0, 4}, {102, 2, 4, 4, 4, 3, 2, 1, 2, 1}, {99, 4, 2, 6, 0, 4, 8, 7, 1, 2, 1, 3},
        {100, 1, 4, 2, 3, 2, 4, 3, 5, 2, 3, 2}, {101, 0, 4, 1, 4, 1, 2, 3, 0, 3, 2, 3},
        {102, 0, 3, 2, 1, 2, 4, 1, 4, 1, 2, 3}};
    private static final int[][] BY_R_SKIPPED = {
        {102, 0, 9, 9, 8, 8}, {99, 1, 9, 7, 1, 6, 9, 2}, {100, 1, 7, 2, 5, 9, 2, 3}, {101, 0, 8, 1, 8, 8, 0, 6},
        {102, 0, 7, 4, 6, 0, 7, 7}, {99, 2, 0, 3, 3, 3, 4, 3, 2, 1, 2, 3}, {100, 2, 4, 1, 4, 0, 1, 0, 1, 5, 1, 3},
        {101, 0, 3, 3, 0, 3, 2, 1, 2, 3, 2, 1}, {102, 0, 4, 0, 1, 3, 4, 0, 2, 1, 4, 1}};
    private static final int[][] BY_P_SKIPPED = {
        {99, 3, 3, 0, 4, 2, 1, 2, 3, 2, 3, 0}, {100, 0, 2, 3, 4, 1, 4, 1, 0, 1, 2, 1},
        {101, 3, 3, 2, 1, 2, 3, 0, 3, 2, 1, 2}, {102, 1, 5, 5, 1, 3, 0, 1, 2, 1, 3, 4}};

    public static void main(String[] args) {
        exactlyAHundredOrMore('r', "", BY_R);
        exactlyAHundredOrMore('p', "", BY_P);
        exactlyAHundredOrMore('r', "o", BY_R_SKIPPED);
        exactlyAHundredOrMore('p', "o", BY_P_SKIPPED);
        singleLapsAreNeverEndless();
        theOtherPlayerToo();
        neverEnding();
        endlessAheadOfFeeding();
        endlessAreNotLookedAt();
        endAsTheRestIsEndless();
        due.end();
    }

    private static Sowingcourt game(char lap, String rules, int[] row) {
        int[] given = new int[row.length - 2];
        System.arraycopy(row, 2, given, 0, given.length);
        return Table.game(lap, 'n', rules, given);
    }

    private static void exactlyAHundredOrMore(char lap, String rules, int[][] rows) {
        due.by("A move of more than 100 laps is endless");
        for (int[] row : rows) {
            Sowingcourt x = game(lap, rules, row);
            String call = lap + rules + " " + Table.shown(x) + " hole " + row[1] + " of " + row[0] + " laps";
            boolean endless = row[0] > 100;
            due.is(call + " barred", x.barred(row[1]), endless ? 'l' : '-');
            due.is(call + " moves()", (x.moves() >> row[1] & 1) == 0, endless);
            if (endless) {
                refuses(call, x, row[1]);
            } else {
                due.is(call + " move", x.move(row[1]), 0);
                due.is(call + " laps()", x.laps(), row[0]);
                due.is(call + " isSound()", x.isSound(), true);
            }
        }
    }

    private static void refuses(String call, Sowingcourt x, int hole) {
        String state = Table.state(x);
        due.fails(call + " move", () -> x.move(hole), UnsupportedOperationException.class);
        due.fails(call + " blunder", () -> x.blunder(hole, 1), UnsupportedOperationException.class);
        due.is(call + " the game stays", Table.state(x), state);
        due.fails(call + " laps()", x::laps, NoSuchElementException.class);
    }

    private static void singleLapsAreNeverEndless() {
        due.by("By 's' the move ends with this lap");
        for (int[] row : BY_R) {
            Sowingcourt x = game('s', "", row);
            due.is("barred of a single lap", x.barred(row[1]), '-');
            x.move(row[1]);
            due.is("laps() of a single lap", x.laps(), 1);
        }
    }

    private static void theOtherPlayerToo() {
        due.by("A move of more than 100 laps is endless");
        int[][] rows = {{3, 2, 8, 1, 4, 7}, {2, 3, 0, 6, 8, 7}, {4, 5, 2, 5, 1, 3}, {3, 3, 4, 6, 4, 5}};
        int[][] moved = {{2, 5}, {0, 5}, {1, 3}, {1, 4}};
        for (int i = 0; i < 4; i++) {
            Sowingcourt x = Table.game(i < 2 ? 'r' : 'p', 'n', "", rows[i]);
            int hole = moved[i][1];
            x.move(moved[i][0]);
            due.is("turn()", x.turn(), 1);
            if (i % 2 == 0) {
                due.is("barred of 100 laps", x.barred(hole), '-');
                x.move(hole);
                due.is("laps()", x.laps(), 100);
            } else {
                due.is("barred of 101 laps", x.barred(hole), 'l');
                due.fails("move of 101 laps", () -> x.move(hole), UnsupportedOperationException.class);
            }
        }
    }

    private static void neverEnding() {
        due.by("'l' the move would be endless");
        due.is("by 'r'", Table.game('r', 'n', "", 3, 1, 0, 1).barred(0), 'l');
        due.is("by 'r', skipped", Table.game('r', 'n', "o", 2, 0, 2, 1).barred(0), 'l');
        due.is("by 'p'", Table.game('p', 'n', "", 2, 1, 0, 1).barred(0), 'l');
        due.is("by 'p', skipped", Table.game('p', 'n', "o", 1, 0, 2, 1).barred(0), 'l');
        due.is("by 'r', five holes", Table.game('r', 'n', "", 2, 0, 1, 0, 1, 0, 1, 0, 2, 1).barred(0), 'l');
        due.is("by 'p', five holes", Table.game('p', 'n', "", 1, 0, 1, 0, 1, 0, 1, 0, 2, 1).barred(0), 'l');
        due.is("by 'r' into a store", Table.game('r', 'n', "s", 3, 1, 0, 1).barred(0), '-');
        due.is("by 'p' into a store", Table.game('p', 'n', "s", 2, 1, 0, 1).barred(0), '-');
    }

    private static void endlessAheadOfFeeding() {
        due.by("A hole is barred by the first of these");
        due.is("endless, the other has none", Table.game('r', 'n', "of", 2, 4, 0, 0).barred(1), 'l');
        due.is("endless, the other has some", Table.game('p', 'n', "f", 2, 1, 0, 1).barred(0), 'l');
        due.is("feeds nobody, but has an end", Table.game('r', 'n', "of", 1, 0, 0, 0).barred(0), 'f');
        due.is("empty, the other has none", Table.game('r', 'n', "of", 0, 4, 0, 0).barred(0), 'e');
        due.is("empty, and the other's", Table.game('r', 'n', "of", 2, 4, 0, 0).barred(3), 'o');
    }

    private static void endlessAreNotLookedAt() {
        due.by("behind so many moves, if each player plays for the own store less the other one");
        Sowingcourt x = Table.game('p', 'n', "", 2, 1, 0, 1);
        due.is("moves()", x.moves(), 2);
        due.is("freeShare()", x.freeShare(), 0.5f);
        for (int depth = 1; depth <= 5; depth++) {
            due.is("best(" + depth + ")", x.best(depth), 1);
            due.is("isPuzzle(" + depth + ")", x.isPuzzle(depth), true);
        }
    }

    private static void endAsTheRestIsEndless() {
        due.by("If all holes are barred for the player whose turn it is then, it is over");
        Sowingcourt x = Table.game('r', 'n', "", 1, 2, 1, 1);
        due.is("value(1) by the end", x.value(1), 1);
        due.is("move(1)", x.move(1), 0);
        due.is("isOver(), hole 3 is empty and hole 2 endless", x.isOver(), true);
        due.is("shown", Table.shown(x), "0 0 /0 0 3 2");
        due.is("winner()", x.winner(), 0);
        x.undo();
        due.is("isOver() behind undo()", x.isOver(), false);
        Sowingcourt y = Table.game('p', 'n', "", 2, 2, 2, 2);
        due.is("move(1)", y.move(1), 0);
        due.is("shown", Table.shown(y), "0 0 /0 0 3 5");
        due.is("winner()", y.winner(), 1);
    }
}
