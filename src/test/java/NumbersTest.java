import java.util.ArrayList;
import java.util.List;

/** Promises 22 to 24 and 39: how many rows there are, their numbers, and whether a game is sound. */
public final class NumbersTest {
    private static final Due due = new Due("NumbersTest");

    public static void main(String[] args) {
        manyCounts();
        manyRefuses();
        rowsByTheirOrder();
        inRowRefuses();
        numbersOfGames();
        soundGames();
        due.end();
    }

    private static void manyCounts() {
        Sowingcourt x = new Sowingcourt();
        due.is("many(1, 0)", x.many(1, 0), 1L);
        due.is("many(1, 50)", x.many(1, 50), 1L);
        due.is("many(2, 3)", x.many(2, 3), 4L);
        due.is("many(10, 0)", x.many(10, 0), 1L);
        due.is("many(10, 1)", x.many(10, 1), 10L);
        due.is("many(10, 50)", x.many(10, 50), 12565671261L);
        for (int holes = 1; holes <= 10; holes++) {
            for (int seeds = 0; seeds <= 50; seeds++) {
                due.is("many(" + holes + ", " + seeds + ")", x.many(holes, seeds),
                        Oracle.rows(holes, seeds).longValueExact());
            }
        }
    }

    private static void manyRefuses() {
        Sowingcourt x = new Sowingcourt();
        for (int wrong : new int[] {-1, 51, 91, Integer.MAX_VALUE, Integer.MIN_VALUE}) {
            due.fails("many(2, " + wrong + ")", () -> x.many(2, wrong), IllegalArgumentException.class);
            due.fails("many(" + wrong + ", 2)", () -> x.many(wrong, 2), IllegalArgumentException.class);
            due.fails("inRow(2, " + wrong + ")", () -> x.inRow(2, wrong, 0, 0), IllegalArgumentException.class);
            due.fails("inRow(" + wrong + ", 2)", () -> x.inRow(wrong, 2, 0, 0), IllegalArgumentException.class);
        }
        due.fails("many(0, 0)", () -> x.many(0, 0), IllegalArgumentException.class);
        due.fails("many(11, 0)", () -> x.many(11, 0), IllegalArgumentException.class);
        due.fails("inRow(0, 0, 0, 0)", () -> x.inRow(0, 0, 0, 0), IllegalArgumentException.class);
        due.fails("inRow(11, 0, 0, 0)", () -> x.inRow(11, 0, 0, 0), IllegalArgumentException.class);
    }

    /** All rows in their order, told by trying each number in the first hole, then in the second one. */
    private static List<int[]> rows(int holes, int seeds) {
        List<int[]> found = new ArrayList<>();
        if (holes == 1) {
            found.add(new int[] {seeds});
            return found;
        }
        for (int first = 0; first <= seeds; first++) {
            for (int[] rest : rows(holes - 1, seeds - first)) {
                int[] row = new int[holes];
                row[0] = first;
                System.arraycopy(rest, 0, row, 1, holes - 1);
                found.add(row);
            }
        }
        return found;
    }

    private static void rowsByTheirOrder() {
        Sowingcourt x = new Sowingcourt();
        for (int holes = 1; holes <= 5; holes++) {
            for (int seeds = 0; seeds <= 6; seeds++) {
                List<int[]> rows = rows(holes, seeds);
                due.is("many(" + holes + ", " + seeds + ")", x.many(holes, seeds), (long) rows.size());
                for (int number = 0; number < rows.size(); number++) {
                    for (int hole = 0; hole < holes; hole++) {
                        due.is("inRow(" + holes + ", " + seeds + ", " + number + ", " + hole + ")",
                                x.inRow(holes, seeds, number, hole), rows.get(number)[hole]);
                    }
                }
            }
        }
        due.is("the last row of many", x.inRow(10, 50, 12565671260L, 0), 50);
        due.is("the last but one of many", x.inRow(10, 50, 12565671259L, 1), 1);
        due.is("the first row of many", x.inRow(10, 50, 0, 9), 50);
    }

    private static void inRowRefuses() {
        Sowingcourt x = new Sowingcourt();
        for (long number : new long[] {-1, 35, 1L << 32, Long.MAX_VALUE, Long.MIN_VALUE}) {
            due.fails("inRow(4, 4, " + number + ", 0)", () -> x.inRow(4, 4, number, 0), IllegalArgumentException.class);
            due.fails("inRow(4, 4, " + number + ", 4)", () -> x.inRow(4, 4, number, 4), IllegalArgumentException.class);
        }
        for (int hole : new int[] {-1, 4, 10, Integer.MAX_VALUE, Integer.MIN_VALUE}) {
            due.fails("inRow(4, 4, 34, " + hole + ")", () -> x.inRow(4, 4, 34, hole), IndexOutOfBoundsException.class);
        }
        due.is("inRow(1, 0, 0, 0)", x.inRow(1, 0, 0, 0), 0);
        due.is("inRow(1, 50, 0, 0)", x.inRow(1, 50, 0, 0), 50);
    }

    private static void numbersOfGames() {
        Sowingcourt none = new Sowingcourt();
        due.fails("number() without a game", none::number, IllegalStateException.class);
        List<int[]> rows = rows(4, 5);
        for (int number = 0; number < rows.size(); number++) {
            Sowingcourt x = Table.game('s', 'n', "", rows.get(number));
            due.is("number() of " + Table.shown(x), x.number(), (long) number);
            due.is("isSound() of it", x.isSound(), true);
        }
        Sowingcourt full = Table.game('s', 'n', "s", 9, 9, 9, 9, 9, 9, 9, 9, 9, 9);
        due.is("number() of 90 seeds", full.number(), numberOfNines());
        due.is("isSound() of 90 seeds", full.isSound(), true);
        full.move(4);
        due.is("isSound() behind a move", full.isSound(), true);
        Sowingcourt over = Table.game('s', 'n', "", 0, 1, 0, 0);
        due.is("number() at first", over.number(), 2L);
        over.move(1);
        due.is("number() in between", over.number(), 1L);
        over.move(2);
        due.is("number() of a game that is over", over.number(), 0L);
        Sowingcourt stored = Table.game('s', 'n', "s", 0, 1, 0, 1);
        stored.move(1);
        due.is("stores are not in the row", stored.number(), 0L);
    }

    private static long numberOfNines() {
        long ahead = 0;
        for (int hole = 0; hole < 10; hole++) {
            int left = 90 - 9 * hole;
            for (int fewer = 0; fewer < 9; fewer++) {
                ahead += Oracle.rows(9 - hole, left - fewer).longValueExact();
            }
        }
        return ahead;
    }

    private static void soundGames() {
        for (char lap : "srp".toCharArray()) {
            for (char capture : "noce".toCharArray()) {
                Sowingcourt x = Table.court(3, 3, lap, capture, "sgfx");
                x.start(0);
                x.give(1, 7);
                x.rule(0, 's', false);
                for (int i = 0; i < 60 && !x.isOver(); i++) {
                    x.move(Integer.numberOfTrailingZeros(Integer.highestOneBit(x.moves())));
                    due.is("isSound() behind a move", x.isSound(), true);
                }
                String ended = Table.state(x);
                due.is("isSound() once more", x.isSound(), true);
                due.is("it changes nothing", Table.state(x), ended);
                x.play(0, 'l');
                due.is("isSound() behind a play", x.isSound(), true);
                x.undo();
                due.is("isSound() behind undo()", x.isSound(), true);
            }
        }
    }
}
