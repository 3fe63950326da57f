import java.util.NoSuchElementException;

/** Promises 25 to 28: values, best moves, blunders and puzzles. */
public final class DepthTest {
    private static final Due due = new Due("DepthTest");

    public static void main(String[] args) {
        valuesLookAhead();
        valuesAreOfWhoseTurnItIs();
        seedsOfAnEnd();
        extraTurns();
        allBarred();
        allBarredBehindOtherQuestions();
        refusals();
        asTheOracleSays();
        nothingChanges();
        due.end();
    }

    private static void valuesLookAhead() {
        Sowingcourt x = Table.game('s', 'e', "", 1, 1, 1, 1);
        due.is("value(0)", x.value(0), 0);
        due.is("value(1) captures two", x.value(1), 2);
        due.is("best(1)", x.best(1), 1);
        due.is("isPuzzle(1)", x.isPuzzle(1), true);
        due.is("blunder(0, 1)", x.blunder(0, 1), 2);
        due.is("blunder(1, 1)", x.blunder(1, 1), 0);
        due.is("value(2) as the other captures two back", x.value(2), 0);
        due.is("best(2) is the first of two", x.best(2), 0);
        due.is("isPuzzle(2)", x.isPuzzle(2), false);
        due.is("blunder(0, 2)", x.blunder(0, 2), 0);
        due.is("blunder(1, 2)", x.blunder(1, 2), 0);
    }

    private static void valuesAreOfWhoseTurnItIs() {
        Sowingcourt x = Table.game('s', 'n', "s", 1, 1, 1, 1);
        due.is("value(1) of player 0", x.value(1), 1);
        due.is("value(2) of player 0", x.value(2), 0);
        x.move(1);
        due.is("value(0) of player 1", x.value(0), -1);
        due.is("value(1) of player 1", x.value(1), 0);
        due.is("best(1) of player 1", x.best(1), 3);
        due.is("blunder(2, 1) of player 1", x.blunder(2, 1), 1);
        due.is("isPuzzle(1) of player 1", x.isPuzzle(1), true);
        due.fails("blunder(0, 1) is not an own one", () -> x.blunder(0, 1), UnsupportedOperationException.class);
    }

    private static void seedsOfAnEnd() {
        Sowingcourt x = Table.game('s', 'n', "", 0, 1, 0, 0);
        due.is("value(0) ahead of an end", x.value(0), 0);
        due.is("value(1) ahead of an end", x.value(1), 0);
        due.is("value(2) by the end", x.value(2), -1);
        due.is("value(3) behind the end", x.value(3), -1);
        due.is("value(5) behind the end", x.value(5), -1);
        due.is("best(5)", x.best(5), 1);
        due.is("isPuzzle(5)", x.isPuzzle(5), true);
        due.is("blunder(1, 5)", x.blunder(1, 5), 0);
        Sowingcourt own = Table.game('s', 'n', "", 1, 1, 0, 0);
        due.is("value(1) keeps all", own.value(1), 2);
        due.is("best(1) keeps all", own.best(1), 0);
        due.is("blunder(1, 1) loses that", own.blunder(1, 1), 2);
    }

    private static void extraTurns() {
        Sowingcourt x = Table.game('s', 'n', "sx", 1, 1, 1, 1);
        due.is("value(1)", x.value(1), 1);
        due.is("value(2): the store, then any hole", x.value(2), 1);
        due.is("best(2)", x.best(2), 1);
        due.is("blunder(0, 2): then the other has the store", x.blunder(0, 2), 2);
        x.move(1);
        due.is("value(1) of the same player", x.value(1), 1);
        Sowingcourt two = Table.game('s', 'n', "sx", 2, 1, 1, 1);
        due.is("value(3): a third one ends it for the other", two.value(3), 1);
        due.is("value(2): 1, 0 by the same player", two.value(2), 2);
    }

    private static void allBarred() {
        Sowingcourt x = Table.game('s', 'n', "", 0, 0, 3, 4);
        for (int depth = 0; depth <= 5; depth++) {
            int d = depth;
            due.is("value(" + d + ") with all barred", x.value(d), 0);
            if (d > 0) {
                due.fails("best(" + d + ") with all barred", () -> x.best(d), NoSuchElementException.class);
                due.is("isPuzzle(" + d + ") with all barred", x.isPuzzle(d), false);
                due.fails("blunder(0, " + d + ") with all barred", () -> x.blunder(0, d),
                        UnsupportedOperationException.class);
            }
        }
    }

    private static void allBarredBehindOtherQuestions() {
        Sowingcourt x = Table.game('s', 'e', "", 1, 1, 1, 1);
        due.is("isPuzzle(1)", x.isPuzzle(1), true);
        x.start(0);
        x.give(0, 0);
        x.give(1, 0);
        due.is("isPuzzle(1) with all barred", x.isPuzzle(1), false);
        due.is("value(1) with all barred", x.value(1), 0);
        due.fails("best(1) with all barred", () -> x.best(1), NoSuchElementException.class);
    }

    private static void refusals() {
        Sowingcourt none = Table.court(2, 1, 's', 'n', "");
        due.fails("value without a game", () -> none.value(9), IllegalStateException.class);
        due.fails("best without a game", () -> none.best(9), IllegalStateException.class);
        due.fails("blunder without a game", () -> none.blunder(9, 9), IllegalStateException.class);
        due.fails("isPuzzle without a game", () -> none.isPuzzle(9), IllegalStateException.class);
        Sowingcourt x = Table.game('s', 'n', "", 0, 1, 0, 0);
        for (int depth : new int[] {-1, 6, Integer.MAX_VALUE, Integer.MIN_VALUE}) {
            due.fails("value(" + depth + ")", () -> x.value(depth), IllegalArgumentException.class);
            due.fails("best(" + depth + ")", () -> x.best(depth), IllegalArgumentException.class);
            due.fails("blunder(1, " + depth + ")", () -> x.blunder(1, depth), IllegalArgumentException.class);
            due.fails("blunder(0, " + depth + "), barred", () -> x.blunder(0, depth), IllegalArgumentException.class);
            due.fails("isPuzzle(" + depth + ")", () -> x.isPuzzle(depth), IllegalArgumentException.class);
        }
        due.fails("best(0)", () -> x.best(0), IllegalArgumentException.class);
        due.fails("blunder(1, 0)", () -> x.blunder(1, 0), IllegalArgumentException.class);
        due.fails("isPuzzle(0)", () -> x.isPuzzle(0), IllegalArgumentException.class);
        for (int hole : new int[] {-1, 4, 10, Integer.MAX_VALUE, Integer.MIN_VALUE}) {
            due.fails("blunder(" + hole + ", 1)", () -> x.blunder(hole, 1), IndexOutOfBoundsException.class);
            due.fails("blunder(" + hole + ", 0)", () -> x.blunder(hole, 0), IndexOutOfBoundsException.class);
        }
        due.fails("blunder of an empty one", () -> x.blunder(0, 1), UnsupportedOperationException.class);
        Sowingcourt empty = Table.game('s', 'n', "", 0, 0, 0, 0);
        due.fails("best(6) with all barred", () -> empty.best(6), IllegalArgumentException.class);
        x.move(1);
        x.move(2);
        due.fails("value in a game that is over", () -> x.value(1), IllegalStateException.class);
        due.fails("best in a game that is over", () -> x.best(1), IllegalStateException.class);
        due.fails("blunder in a game that is over", () -> x.blunder(1, 1), IllegalStateException.class);
        due.fails("isPuzzle in a game that is over", () -> x.isPuzzle(1), IllegalStateException.class);
    }

    /** Each depth in some games, against the oracle that tries everything. */
    private static void asTheOracleSays() {
        String[] rules = {"", "s", "sx", "ogf", "sgx", "sofx"};
        int turn = 0;
        for (char lap : "srp".toCharArray()) {
            for (char capture : "noce".toCharArray()) {
                String rule = rules[turn % rules.length];
                Sowingcourt x = Table.court(2 + turn % 2, 2, lap, capture, rule);
                Oracle oracle = new Oracle();
                oracle.kind(2 + turn % 2, 2, lap, capture);
                for (char what : rule.toCharArray()) {
                    oracle.rule(0, what, true);
                }
                x.start(0);
                oracle.start(0);
                follow(lap + "" + capture + rule + " ", x, oracle);
                turn++;
            }
        }
    }

    private static void follow(String game, Sowingcourt x, Oracle oracle) {
        for (int length = 0; length < 6 && !x.isOver(); length++) {
            for (int depth = 1; depth <= 5; depth++) {
                String call = game + length + " depth " + depth;
                due.is(call + " value", x.value(depth), oracle.value(depth));
                due.is(call + " best", x.best(depth), oracle.best(depth));
                due.is(call + " isPuzzle", x.isPuzzle(depth), oracle.isPuzzle(depth));
                int hole = Integer.numberOfTrailingZeros(Integer.highestOneBit(x.moves()));
                due.is(call + " blunder", x.blunder(hole, depth), oracle.blunder(hole, depth));
            }
            int hole = Integer.numberOfTrailingZeros(x.moves());
            x.move(hole);
            oracle.move(hole);
        }
    }

    private static void nothingChanges() {
        Sowingcourt x = Table.game('r', 'c', "s", 3, 4, 5, 2, 3, 1);
        String state = Table.state(x);
        x.value(5);
        x.best(5);
        x.blunder(0, 5);
        x.isPuzzle(5);
        due.is("the game stays", Table.state(x), state);
        due.is("give is still free", x.give(0, 3), 18);
    }
}
