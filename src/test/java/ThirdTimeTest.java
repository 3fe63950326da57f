/** Positions that come again: once more is nothing, the third time ends the game. */
public final class ThirdTimeTest {
    private static final Due due = new Due("ThirdTimeTest");
    /** From two seeds in the holes 0 and 1 these come back to the beginning. */
    private static final int[] ROUND = {1, 2, 0, 3};

    public static void main(String[] args) {
        theFirstPositionCounts();
        aLaterPosition();
        seedsGoToTheirOwners();
        theTurnCounts();
        timesAheadOfTheEnd();
        takenBackIsNotThere();
        anotherWayBehindUndo();
        handicapsAreOnePosition();
        aNewGameForgets();
        valuesDoNotLookAtIt();
        playsEndByIt();
        recordsEndByIt();
        soundBehindIt();
        due.end();
    }

    private static Sowingcourt ring() {
        return Table.game('s', 'n', "", 1, 1, 0, 0);
    }

    private static void move(Sowingcourt x, int... holes) {
        for (int hole : holes) {
            due.is("isOver() ahead of " + hole, x.isOver(), false);
            x.move(hole);
        }
    }

    private static void theFirstPositionCounts() {
        due.by("for the third time in the game, that ahead of the first move counted");
        Sowingcourt x = ring();
        due.is("times() ahead of the first move", x.times(), 1);
        move(x, ROUND);
        due.is("times() the second time", x.times(), 2);
        due.is("isOver() the second time", x.isOver(), false);
        move(x, 1, 2, 0);
        due.is("isOver() ahead of the third time", x.isOver(), false);
        move(x, 3);
        due.is("isOver() the third time", x.isOver(), true);
        due.is("length()", x.length(), 8);
    }

    private static void aLaterPosition() {
        due.by("is there for the third time in the game");
        Sowingcourt x = Table.court(2, 1, 's', 'n', "");
        x.start(0);
        move(x, 1);
        due.is("shown the first time", Table.shown(x), "1 0 /2 1 0 0");
        move(x, 2, 0, 3, 1);
        due.is("shown the second time", Table.shown(x), "1 0 /2 1 0 0");
        due.is("times() the second time", x.times(), 2);
        move(x, 2, 0, 3);
        due.is("times() of another one the second time", x.times(), 2);
        move(x, 1);
        due.is("isOver() the third time", x.isOver(), true);
        due.is("shown the third time", Table.shown(x), "0 0 /0 0 1 3");
        due.is("winner()", x.winner(), 1);
    }

    private static void seedsGoToTheirOwners() {
        due.by("it is over: all seeds in holes go to the stores of those whose holes they are in");
        Sowingcourt x = Table.game('s', 'n', "", 0, 2, 0, 0);
        move(x, 1, 3, 0, 2, 1, 3, 0, 2);
        due.is("shown ahead of it", Table.shown(x), "0 1 /0 1 0 0");
        due.is("the last move has no seeds of the end", x.move(1), 0);
        due.is("shown", Table.shown(x), "0 0 /0 0 0 2");
        due.is("store(0)", x.store(0), 0);
        due.is("store(1)", x.store(1), 2);
        due.is("winner()", x.winner(), 1);
    }

    private static void theTurnCounts() {
        due.by("the position, with stores and whose turn it is");
        Sowingcourt x = Table.game('s', 'n', "", 0, 1, 2, 0);
        move(x, 1, 2, 1, 3, 0, 2, 1, 3);
        due.is("isOver() ahead", x.isOver(), false);
        move(x, 0);
        due.is("shown a third time, twice by this turn", Table.shown(x), "0 1 /2 0 0 0");
        due.is("times() by this turn", x.times(), 2);
        due.is("isOver()", x.isOver(), false);
    }

    private static void timesAheadOfTheEnd() {
        due.by("how often the position was there in the game, this time too, as it was ahead of an end");
        Sowingcourt x = ring();
        move(x, ROUND);
        move(x, ROUND);
        due.is("times() of an end by the third time", x.times(), 3);
        Sowingcourt once = Table.game('s', 'n', "", 1, 0, 0, 0);
        once.move(0);
        due.is("isOver() as all are barred", once.isOver(), true);
        due.is("times() of an end at once", once.times(), 1);
        Sowingcourt empty = Table.game('s', 'n', "", 0, 0, 0, 0);
        due.is("times() without a move", empty.times(), 1);
    }

    private static void takenBackIsNotThere() {
        due.by("Takes the last move back, also that which ended the game");
        Sowingcourt x = ring();
        for (int i = 0; i < 4; i++) {
            move(x, ROUND);
            due.is("times() of the second time", x.times(), 2);
            for (int back = 3; back >= 0; back--) {
                due.is("undo()", x.undo(), ROUND[back]);
                due.is("times() behind undo()", x.times(), 1);
            }
        }
        move(x, ROUND);
        move(x, ROUND);
        for (int i = 0; i < 3; i++) {
            due.is("isOver() of the third time", x.isOver(), true);
            due.is("undo() of the end", x.undo(), 3);
            due.is("isOver() behind undo()", x.isOver(), false);
            due.is("turn() behind undo()", x.turn(), 1);
            due.is("shown behind undo()", Table.shown(x), "0 1 /0 1 0 0");
            due.is("times() behind undo()", x.times(), 2);
            x.move(3);
        }
    }

    private static void anotherWayBehindUndo() {
        due.by("how often the position was there in the game");
        Sowingcourt x = ring();
        move(x, 0);
        x.undo();
        move(x, 1, 2);
        x.undo();
        x.undo();
        move(x, 1, 2, 0, 3, 1, 2, 0);
        x.undo();
        x.move(0);
        due.is("times() as one was taken back and moved again", x.times(), 2);
        move(x, 3);
        due.is("isOver() the third time", x.isOver(), true);
    }

    private static void handicapsAreOnePosition() {
        due.by("Ahead of the first move holes can be given other numbers of seeds");
        Sowingcourt x = Table.court(2, 1, 's', 'n', "");
        x.start(0);
        for (int i = 0; i < 3; i++) {
            x.give(0, 1);
            x.give(1, 1);
            x.give(2, 0);
            x.give(3, 0);
            due.is("times() of what was given again", x.times(), 1);
        }
        move(x, ROUND);
        due.is("times() the second time", x.times(), 2);
        move(x, ROUND);
        due.is("isOver() the third time", x.isOver(), true);
    }

    private static void aNewGameForgets() {
        due.by("Begins a game, in place of any other one");
        Sowingcourt x = Table.court(2, 1, 's', 'n', "");
        for (int i = 0; i < 4; i++) {
            x.start(0);
            due.is("times() at first", x.times(), 1);
            move(x, 1, 2, 0, 3, 1);
            due.is("times() the second time", x.times(), 2);
        }
        move(x, 2, 0, 3, 1);
        due.is("isOver()", x.isOver(), true);
        x.start(0);
        due.is("isOver() of a new one", x.isOver(), false);
        due.is("times() of a new one", x.times(), 1);
    }

    private static void valuesDoNotLookAtIt() {
        due.by("positions that come again are not looked at");
        Sowingcourt x = ring();
        move(x, ROUND);
        move(x, 1, 2, 0);
        due.is("turn()", x.turn(), 1);
        due.is("value(1), as player 0 would have both", x.value(1), 0);
        due.is("best(1)", x.best(1), 3);
        due.is("blunder(3, 1)", x.blunder(3, 1), 0);
        x.move(3);
        due.is("store(0) has both", x.store(0), 2);
        due.fails("value(0) of an end", () -> x.value(0), IllegalStateException.class);
    }

    private static void playsEndByIt() {
        due.by("A kind plays by itself from its start");
        Sowingcourt x = Table.court(3, 2, 'r', 'c', "");
        due.is("play(0, 'l')", x.play(0, 'l'), 67);
        x.start(0);
        while (!x.isOver()) {
            x.move(Integer.numberOfTrailingZeros(x.moves()));
        }
        due.is("length(), as no move comes into a store", x.length(), 67);
        due.is("times()", x.times(), 3);
        due.is("play(0, 'd') is that of the stores", x.play(0, 'd'), x.store(0) - x.store(1));
    }

    private static void recordsEndByIt() {
        due.by("without a barred one, or one behind the end");
        Sowingcourt x = Table.court(2, 1, 'r', 'n', "");
        x.start(0);
        int count = 0;
        for (int hole : new int[] {0, 2, 1, 2, 1}) {
            move(x, hole);
            count = x.type(hole);
            due.is("explains(0)", x.explains(0), count);
        }
        due.is("isOver()", x.isOver(), true);
        due.is("times()", x.times(), 3);
        for (int hole = 0; hole < 4; hole++) {
            x.type(hole);
        }
        due.is("explains(0) none behind the end", x.explains(0), count);
    }

    private static void soundBehindIt() {
        due.by("the moves of the game, played once more from that, come to the same");
        Sowingcourt x = ring();
        move(x, ROUND);
        due.is("isSound() the second time", x.isSound(), true);
        move(x, ROUND);
        due.is("isSound() the third time", x.isSound(), true);
        x.undo();
        due.is("isSound() behind undo()", x.isSound(), true);
    }
}
