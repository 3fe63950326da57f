import java.util.NoSuchElementException;

/** Records, rows, boards and courts that are empty or full. */
public final class EmptyAndFullTest {
    private static final Due due = new Due("EmptyAndFullTest");

    public static void main(String[] args) {
        emptyRecord();
        wipedRecord();
        fullRecord();
        recordUpToTheEnd();
        recordThatBeginsBarred();
        recordUpToTheThirdTime();
        rowsWithoutSeeds();
        rowsOfFiftySeeds();
        numbersOfEmptyBoards();
        numbersOfFullBoards();
        allBarredByHandicaps();
        fullBoards();
        courtWithoutKinds();
        courtOfOneKind();
        playsOfOneMove();
        playsOfTwoHundredMoves();
        due.end();
    }

    private static void type(Sowingcourt x, int... holes) {
        for (int hole : holes) {
            x.type(hole);
        }
    }

    private static void emptyRecord() {
        due.by("A kind explains as many of them as it can play; NoSuchElementException if nothing is typed");
        Sowingcourt x = Table.court(2, 1, 's', 'n', "");
        due.is("explains(0)", x.explains(0), 0);
        due.fails("explainer()", x::explainer, NoSuchElementException.class);
        due.is("wipe()", x.wipe(), 0);
        x.type(0);
        due.is("explains(0) of one", x.explains(0), 1);
        due.is("explainer() of one", x.explainer(), 0);
    }

    private static void wipedRecord() {
        due.by("Wipes the record. Returns how many there were");
        Sowingcourt x = Table.court(2, 1, 's', 'n', "");
        type(x, 0, 2, 1);
        due.is("explains(0)", x.explains(0), 3);
        due.is("wipe()", x.wipe(), 3);
        due.is("explains(0) of none", x.explains(0), 0);
        due.fails("explainer() of none", x::explainer, NoSuchElementException.class);
        due.is("wipe() of none", x.wipe(), 0);
        due.is("type(1)", x.type(1), 1);
        due.is("explains(0) of the new one", x.explains(0), 1);
        due.is("wipe() of one", x.wipe(), 1);
    }

    /** This kind goes on for more than sixty moves, if each one is that of the first hole. */
    private static void fullRecord() {
        due.by("at most 60, typed one by one");
        Sowingcourt x = Table.court(3, 3, 'r', 'n', "");
        x.start(0);
        for (int count = 1; count <= 60; count++) {
            int hole = Integer.numberOfTrailingZeros(x.moves());
            x.move(hole);
            due.is("isOver()", x.isOver(), false);
            due.is("type(" + hole + ")", x.type(hole), count);
            due.is("explains(0)", x.explains(0), count);
        }
        due.fails("type of one more", () -> x.type(0), IllegalStateException.class);
        due.is("explains(0) of all 60", x.explains(0), 60);
        due.is("explainer() of all 60", x.explainer(), 0);
        due.is("the game stays", x.length(), 60);
        due.is("wipe()", x.wipe(), 60);
        due.is("explains(0) of none", x.explains(0), 0);
    }

    private static void recordUpToTheEnd() {
        due.by("without a barred one, or one behind the end");
        Sowingcourt x = Table.court(2, 1, 's', 'n', "");
        type(x, 0, 2, 1);
        due.is("explains(0) ahead of the end", x.explains(0), 3);
        type(x, 2);
        due.is("explains(0) with the end", x.explains(0), 4);
        for (int hole : new int[] {0, 1, 2, 3, 9}) {
            type(x, hole);
            due.is("explains(0) with some behind the end", x.explains(0), 4);
        }
    }

    private static void recordThatBeginsBarred() {
        due.by("from its start, without a barred one");
        for (int hole : new int[] {2, 3, 4, 9}) {
            Sowingcourt x = Table.court(2, 1, 's', 'n', "");
            type(x, hole, 0, 2);
            due.is("explains(0) of a record that begins with " + hole, x.explains(0), 0);
            due.is("explainer() of what none explains", x.explainer(), 0);
        }
        for (int h = 2; h <= 5; h++) {
            Sowingcourt x = Table.court(h, 1, 's', 'n', "");
            type(x, h - 1, 2 * h - 1);
            due.is("explains(0) of the last holes of " + h, x.explains(0), 2);
            x.wipe();
            type(x, h);
            due.is("explains(0) of the other's first hole of " + h, x.explains(0), 0);
        }
    }

    private static void recordUpToTheThirdTime() {
        due.by("or the position is there for the third time in the game, it is over");
        Sowingcourt x = Table.court(2, 1, 's', 'n', "");
        type(x, 1, 2, 0, 3, 1, 2, 0, 3);
        due.is("explains(0) up to the second time", x.explains(0), 8);
        x.type(1);
        due.is("explains(0) up to the third time", x.explains(0), 9);
        type(x, 2, 0, 3, 1);
        due.is("explains(0) with some behind it", x.explains(0), 9);
    }

    private static void rowsWithoutSeeds() {
        due.by("the seeds, 0 to 50");
        Sowingcourt x = new Sowingcourt();
        for (int holes = 1; holes <= 10; holes++) {
            int h = holes;
            due.is("many(" + holes + ", 0)", x.many(holes, 0), 1L);
            for (int hole = 0; hole < holes; hole++) {
                due.is("inRow(" + holes + ", 0, 0, " + hole + ")", x.inRow(holes, 0, 0, hole), 0);
            }
            due.fails("inRow of a second one", () -> x.inRow(h, 0, 1, 0), IllegalArgumentException.class);
        }
    }

    private static void rowsOfFiftySeeds() {
        due.by("in the order of the numbers in the first hole, then in the second one, and so on");
        Sowingcourt x = new Sowingcourt();
        long[] many = {1, 51, 1326, 23426, 316251, 3478761, 32468436, 264385836, 1916797311, 12565671261L};
        for (int holes = 1; holes <= 10; holes++) {
            int h = holes;
            due.is("many(" + holes + ", 50)", x.many(holes, 50), many[holes - 1]);
            for (int hole = 0; hole < holes; hole++) {
                due.is("hole " + hole + " of the first row", x.inRow(holes, 50, 0, hole), hole == holes - 1 ? 50 : 0);
                due.is("hole " + hole + " of the last row", x.inRow(holes, 50, many[holes - 1] - 1, hole),
                        hole == 0 ? 50 : 0);
            }
            due.fails("the row behind the last one", () -> x.inRow(h, 50, many[h - 1], 0),
                    IllegalArgumentException.class);
        }
        due.is("the second row of ten: the last hole", x.inRow(10, 50, 1, 9), 49);
        due.is("the second row of ten: the last but one", x.inRow(10, 50, 1, 8), 1);
    }

    private static void numbersOfEmptyBoards() {
        due.by("the number of the row of all holes of the game, among those with as many seeds");
        for (int h = 2; h <= 5; h++) {
            Sowingcourt x = Table.game('s', 'n', "", new int[2 * h]);
            due.is("number() without seeds", x.number(), 0L);
            due.is("isSound() without seeds", x.isSound(), true);
            x.give(2 * h - 1, 9);
            due.is("number() with all in the last hole", x.number(), 0L);
            x.give(2 * h - 1, 0);
            x.give(0, 9);
            due.is("number() with all in the first hole", x.number(), x.many(2 * h, 9) - 1);
        }
        Sowingcourt over = Table.game('s', 'n', "", 0, 0, 0, 0, 1, 0, 0, 0, 0, 0);
        due.is("number() ahead of an end", over.number(), 5L);
        over.move(4);
        due.is("number() of the other's", over.number(), 4L);
        over.move(5);
        due.is("number() of a game that is over", over.number(), 0L);
        over.undo();
        due.is("number() behind undo()", over.number(), 4L);
    }

    private static void numbersOfFullBoards() {
        due.by("and the number of the row of holes leads back to it");
        Sowingcourt x = Table.game('s', 'n', "", 5, 5, 5, 5, 5, 5, 5, 5, 5, 5);
        long number = x.number();
        for (int hole = 0; hole < 10; hole++) {
            due.is("inRow(10, 50, " + number + ", " + hole + ")", x.inRow(10, 50, number, hole), 5);
        }
        x.give(9, 6);
        due.is("number() of 51 seeds", x.number() > number, true);
        for (int hole = 0; hole < 10; hole++) {
            x.give(hole, 9);
        }
        due.is("number() of 90 seeds", x.number(), 1068188938750L);
        due.is("isSound() of 90 seeds", x.isSound(), true);
    }

    private static void allBarredByHandicaps() {
        due.by("if all holes are barred by that, the game is not over before a move ends it");
        Sowingcourt x = Table.game('s', 'n', "", 0, 0, 5, 5);
        due.is("isOver()", x.isOver(), false);
        due.is("turn()", x.turn(), 0);
        due.is("moves()", x.moves(), 0);
        due.is("freeShare()", x.freeShare(), 0.0f);
        due.is("barred(0)", x.barred(0), 'e');
        due.is("barred(2)", x.barred(2), 'o');
        due.is("shown", Table.shown(x), "0 0 /5 5 0 0");
        due.is("give(0, 1)", x.give(0, 1), 11);
        due.is("moves() again", x.moves(), 1);
        Sowingcourt fed = Table.game('s', 'n', "f", 1, 0, 0, 0);
        due.is("moves() all barred by feeding", fed.moves(), 0);
        due.is("isOver() all barred by feeding", fed.isOver(), false);
        Sowingcourt ended = Table.game('s', 'n', "f", 0, 1, 0, 0);
        ended.move(1);
        due.is("isOver() as a move bars all", ended.isOver(), true);
        due.is("shown", Table.shown(ended), "0 0 /0 0 0 1");
    }

    private static void fullBoards() {
        due.by("holes can be given other numbers of seeds, 0 to 9");
        for (int h = 2; h <= 5; h++) {
            int[] nines = new int[2 * h];
            for (int hole = 0; hole < 2 * h; hole++) {
                nines[hole] = 9;
            }
            Sowingcourt x = Table.game('s', 'n', "s", nines);
            due.is("give(0, 9)", x.give(0, 9), 18 * h);
            due.is("moves()", x.moves(), (1 << h) - 1);
            x.move(h - 1);
            due.is("a hole of ten is written by two signs", x.line(), 4 * h + 4 + Math.min(2 * h - 1, 8));
            due.is("isSound()", x.isSound(), true);
        }
    }

    private static void courtWithoutKinds() {
        due.by("Creates a court without kinds, games and records");
        Sowingcourt x = new Sowingcourt();
        due.fails("start(0)", () -> x.start(0), IndexOutOfBoundsException.class);
        due.fails("parent(0)", () -> x.parent(0), IndexOutOfBoundsException.class);
        due.fails("meanUnlike()", x::meanUnlike, ArithmeticException.class);
        due.fails("length()", x::length, IllegalStateException.class);
        due.fails("undo()", x::undo, UnsupportedOperationException.class);
        due.is("checksum()", x.checksum(), 7L);
        due.is("wipe()", x.wipe(), 0);
        x.type(0);
        due.fails("explainer() of a record without kinds", x::explainer, NoSuchElementException.class);
        due.is("a second one has none of it", new Sowingcourt().wipe(), 0);
    }

    private static void courtOfOneKind() {
        due.by("NoSuchElementException if there is no lower number; ArithmeticException if there are none");
        Sowingcourt x = Table.court(2, 1, 's', 'n', "");
        due.fails("parent(0) of one kind", () -> x.parent(0), NoSuchElementException.class);
        due.fails("meanUnlike() of one kind", x::meanUnlike, ArithmeticException.class);
        x.copy(0);
        due.fails("parent(0) of two kinds", () -> x.parent(0), NoSuchElementException.class);
        due.is("parent(1)", x.parent(1), 0);
        due.is("meanUnlike() of two that are alike", x.meanUnlike(), 0.0);
    }

    private static void playsOfOneMove() {
        due.by("with the seeds of an end, if it ends by that");
        Sowingcourt x = Table.court(2, 1, 'r', 'o', "");
        due.is("play(0, 'l')", x.play(0, 'l'), 1);
        due.is("play(0, 'c')", x.play(0, 'c'), 0);
        due.is("play(0, 'd')", x.play(0, 'd'), 4);
    }

    /** Of these the first one ends by its move of number 200, the second one never does. */
    private static void playsOfTwoHundredMoves() {
        due.by("up to 200 moves");
        Sowingcourt x = Table.court(4, 3, 's', 'n', "of");
        due.is("play(0, 'l') that ends by then", x.play(0, 'l'), 200);
        due.is("play(0, 'd') with the seeds of the end", x.play(0, 'd'), -8);
        due.is("play(0, 'c') with the seeds of the end", x.play(0, 'c'), 0);
        Sowingcourt y = Table.court(3, 3, 'r', 'n', "");
        due.is("play(0, 'l') that goes on", y.play(0, 'l'), 200);
        due.is("play(0, 'd') without an end", y.play(0, 'd'), 0);
        due.is("play(0, 'c') without an end", y.play(0, 'c'), 0);
    }
}
