import java.util.NoSuchElementException;

/** A game that is not begun, begun, over, taken back, or begun in place of another one. */
public final class StatesTest {
    private static final Due due = new Due("StatesTest");

    public static void main(String[] args) {
        notBegun();
        begun();
        goesOnEvenIfAllAreBarred();
        inPlaceOfAnotherOne();
        inPlaceOfOneThatIsOver();
        keepsItsKind();
        over();
        overByCaptures();
        whoHasMoreHasWon();
        endTakenBack();
        allTakenBack();
        extraTurnTakenBack();
        captureTakenBack();
        anotherMoveBehindUndo();
        refusedMovesAreNoMoves();
        handicapsUpToTheFirstMove();
        due.end();
    }

    private static void notBegun() {
        due.by("if no game was begun; Returns 7 at first");
        Sowingcourt x = new Sowingcourt();
        for (int i = 0; i < 2; i++) {
            due.is("checksum()", x.checksum(), 7L);
            due.is("isSound()", x.isSound(), true);
            due.fails("isOver()", x::isOver, IllegalStateException.class);
            due.fails("undo()", x::undo, UnsupportedOperationException.class);
            x.kind(2, 1, 's', 'n');
            x.type(0);
            due.is("play(0, 'l')", x.play(0, 'l'), 4);
            due.is("explains(0)", x.explains(0), 1);
            due.is("explainer()", x.explainer(), 0);
            due.is("many(4, 4)", x.many(4, 4), 35L);
        }
    }

    private static void begun() {
        due.by("each has a store, empty at first");
        for (int h = 2; h <= 5; h++) {
            Sowingcourt x = Table.court(h, 3, 's', 'n', "s");
            due.is("start(0)", x.start(0), 6 * h);
            due.is("store(0)", x.store(0), 0);
            due.is("store(1)", x.store(1), 0);
            due.is("turn()", x.turn(), 0);
            due.is("length()", x.length(), 0);
            due.is("times()", x.times(), 1);
            due.is("isOver()", x.isOver(), false);
            due.is("moves()", x.moves(), (1 << h) - 1);
            due.is("freeShare()", x.freeShare(), 1.0f);
            due.is("isSound()", x.isSound(), true);
            due.fails("winner()", x::winner, NoSuchElementException.class);
            due.fails("laps()", x::laps, NoSuchElementException.class);
            due.fails("undo()", x::undo, UnsupportedOperationException.class);
        }
    }

    private static void goesOnEvenIfAllAreBarred() {
        due.by("it goes on, even if all holes are barred");
        Sowingcourt x = Table.game('s', 'n', "", 0, 0, 1, 0);
        due.is("isOver()", x.isOver(), false);
        due.is("turn()", x.turn(), 0);
        due.is("moves()", x.moves(), 0);
        due.fails("winner()", x::winner, NoSuchElementException.class);
        due.fails("move(0)", () -> x.move(0), UnsupportedOperationException.class);
        due.fails("move(2)", () -> x.move(2), UnsupportedOperationException.class);
        due.is("value(0)", x.value(0), 0);
        due.is("value(5)", x.value(5), 0);
        due.fails("best(5)", () -> x.best(5), NoSuchElementException.class);
        due.is("isPuzzle(5)", x.isPuzzle(5), false);
        due.is("seeds(2)", x.seeds(2), 1);
    }

    private static void inPlaceOfAnotherOne() {
        due.by("Begins a game, in place of any other one");
        Sowingcourt x = Table.court(2, 2, 's', 'n', "s");
        x.kind(3, 1, 'r', 'n');
        x.start(0);
        x.give(0, 5);
        x.move(0);
        due.is("start(1)", x.start(1), 6);
        due.is("shown", Table.state(x), "1 1 1 /1 1 1 0 0 turn 0 moves 7 over false length 0 times 1 laps "
                + "throws.NoSuchElementException");
        due.fails("undo()", x::undo, UnsupportedOperationException.class);
        due.is("give(5, 9)", x.give(5, 9), 14);
        due.is("start(0)", x.start(0), 8);
        due.is("shown", Table.shown(x), "2 2 /2 2 0 0");
        due.fails("seeds(4)", () -> x.seeds(4), IndexOutOfBoundsException.class);
        due.is("what was given once is forgotten", x.isSound(), true);
    }

    private static void inPlaceOfOneThatIsOver() {
        due.by("Begins a game, in place of any other one; it goes on");
        Sowingcourt x = Table.game('s', 'n', "", 1, 0, 0, 0);
        x.move(0);
        due.is("isOver()", x.isOver(), true);
        due.is("start(0)", x.start(0), 4);
        due.is("isOver() of a new one", x.isOver(), false);
        due.is("turn()", x.turn(), 0);
        due.is("store(0)", x.store(0), 0);
        due.is("length()", x.length(), 0);
        due.is("give(0, 3)", x.give(0, 3), 6);
        due.fails("winner()", x::winner, NoSuchElementException.class);
        due.fails("undo()", x::undo, UnsupportedOperationException.class);
    }

    private static void keepsItsKind() {
        due.by("A game keeps the kind as it was when the game was begun");
        Sowingcourt x = Table.court(2, 1, 's', 'e', "");
        x.start(0);
        for (char what : "sogfx".toCharArray()) {
            x.rule(0, what, true);
        }
        due.is("value(1) by the old rules", x.value(1), 2);
        due.is("move(1) by the old rules", x.move(1), 2);
        due.is("shown", Table.shown(x), "1 0 /0 1 2 0");
        due.is("turn()", x.turn(), 1);
        due.is("isSound() by the old rules", x.isSound(), true);
        x.undo();
        due.is("move(1) behind undo()", x.move(1), 2);
        x.start(0);
        due.is("move(1) by the new rules", x.move(1), 1);
        due.is("turn() by the new rules", x.turn(), 0);
        x.rule(0, 'x', false);
        due.is("move(0) by the new rules", x.move(0), 0);
        due.is("play by the newest rules", x.play(0, 'l') > 0, true);
        due.is("isSound() by the new rules", x.isSound(), true);
    }

    private static void over() {
        due.by("it is over: all seeds in holes go to the stores of those whose holes they are in");
        Sowingcourt x = Table.game('s', 'n', "s", 1, 2, 0, 1);
        due.is("move(1)", x.move(1), 1);
        due.is("shown", Table.shown(x), "1 0 /1 1 1 0");
        due.is("move(3)", x.move(3), 1);
        due.is("move(0)", x.move(0), 0);
        due.is("move(2)", x.move(2), 0);
        due.is("move(1)", x.move(1), 1);
        due.is("move(3), seeds of the end left out", x.move(3), 1);
        due.is("isOver()", x.isOver(), true);
        for (int hole = 0; hole < 4; hole++) {
            due.is("seeds(" + hole + ")", x.seeds(hole), 0);
        }
        due.is("store(0)", x.store(0), 2);
        due.is("store(1)", x.store(1), 2);
        due.is("winner()", x.winner(), -1);
        due.is("laps()", x.laps(), 1);
        due.is("length()", x.length(), 6);
        due.is("times()", x.times(), 1);
        due.is("number()", x.number(), 0L);
        due.is("line()", x.line(), 12);
        due.is("shown", Table.shown(x), "0 0 /0 0 2 2");
        due.is("checksum()", x.checksum(), checksum(0, 0, 0, 0, 2, 2, 6));
        due.is("isSound()", x.isSound(), true);
    }

    private static void overByCaptures() {
        due.by("If all holes are barred for the player whose turn it is then, it is over");
        Sowingcourt x = Table.game('s', 'o', "", 1, 0, 9, 0);
        due.is("move(0)", x.move(0), 10);
        due.is("isOver()", x.isOver(), true);
        Sowingcourt slam = Table.game('s', 'o', "g", 1, 0, 9, 0);
        due.is("move(0) by no grand slam", slam.move(0), 0);
        due.is("isOver() by no grand slam", slam.isOver(), false);
        Sowingcourt extra = Table.game('s', 'n', "sx", 0, 1, 3, 3);
        due.is("move(1) for a turn that nothing is left for", extra.move(1), 1);
        due.is("isOver() though the other could move", extra.isOver(), true);
        due.is("shown", Table.shown(extra), "0 0 /0 0 1 6");
        Sowingcourt other = Table.game('s', 'n', "s", 0, 1, 3, 3);
        other.move(1);
        due.is("isOver() as the other can move", other.isOver(), false);
    }

    private static void whoHasMoreHasWon() {
        due.by("Who has more has won; -1 for nobody");
        for (int seeds = 1; seeds <= 9; seeds++) {
            Sowingcourt x = Table.game('s', 'n', "sx", 0, 1, seeds - 1, 0);
            x.move(1);
            due.is("isOver()", x.isOver(), true);
            int more = 1 - (seeds - 1);
            due.is("winner() of 1 and " + (seeds - 1), x.winner(), more == 0 ? -1 : more > 0 ? 0 : 1);
        }
    }

    private static void endTakenBack() {
        due.by("Takes the last move back, also that which ended the game");
        Sowingcourt x = Table.game('s', 'o', "", 1, 0, 9, 0);
        String ahead = Table.state(x);
        for (int i = 0; i < 3; i++) {
            x.move(0);
            due.is("isOver()", x.isOver(), true);
            due.is("undo()", x.undo(), 0);
            due.is("the state behind undo()", Table.state(x), ahead);
            due.fails("winner()", x::winner, NoSuchElementException.class);
            due.is("value(1)", x.value(1), 10);
            due.is("isSound()", x.isSound(), true);
        }
        due.fails("undo() of none", x::undo, UnsupportedOperationException.class);
    }

    private static void allTakenBack() {
        due.by("how many laps the last move had, not taken back");
        Sowingcourt x = Table.game('r', 'n', "", 1, 1, 1, 1);
        x.move(0);
        x.move(2);
        due.is("laps() of two", x.laps(), 2);
        due.is("undo()", x.undo(), 2);
        due.is("laps() of one", x.laps(), 3);
        due.is("length()", x.length(), 1);
        due.is("undo()", x.undo(), 0);
        due.fails("laps() of none", x::laps, NoSuchElementException.class);
        due.is("length()", x.length(), 0);
        due.is("times()", x.times(), 1);
        due.is("turn()", x.turn(), 0);
        due.is("shown", Table.shown(x), "1 1 /1 1 0 0");
        due.is("isSound()", x.isSound(), true);
        due.fails("undo() of none", x::undo, UnsupportedOperationException.class);
        due.is("length() still", x.length(), 0);
    }

    private static void extraTurnTakenBack() {
        due.by("the same player moves again; Takes the last move back");
        Sowingcourt x = Table.game('s', 'n', "sx", 2, 1, 1, 2);
        x.move(0);
        due.is("turn() of an extra one", x.turn(), 0);
        x.move(1);
        due.is("turn() of the other", x.turn(), 1);
        due.is("undo()", x.undo(), 1);
        due.is("turn() behind undo()", x.turn(), 0);
        due.is("undo()", x.undo(), 0);
        due.is("turn() at first", x.turn(), 0);
        due.is("store(0)", x.store(0), 0);
    }

    private static void captureTakenBack() {
        due.by("Takes the last move back");
        Sowingcourt x = Table.game('s', 'c', "", 1, 0, 3, 1, 2, 1);
        due.is("move(2)", x.move(2), 7);
        due.is("shown", Table.shown(x), "0 0 0 /0 0 0 8 0");
        due.is("undo()", x.undo(), 2);
        due.is("shown", Table.shown(x), "1 0 3 /1 2 1 0 0");
        due.is("store(0)", x.store(0), 0);
    }

    private static void anotherMoveBehindUndo() {
        due.by("the moves of the game, played once more, come to the same");
        Sowingcourt x = Table.game('s', 'n', "s", 2, 2, 2, 2);
        x.move(0);
        x.move(2);
        x.undo();
        x.undo();
        x.move(1);
        due.is("shown", Table.shown(x), "2 0 /3 2 1 0");
        due.is("length()", x.length(), 1);
        due.is("checksum()", x.checksum(), checksum(2, 0, 3, 2, 1, 0, 1));
        due.is("isSound()", x.isSound(), true);
        due.is("undo()", x.undo(), 1);
    }

    private static long checksum(int... parts) {
        long sum = 7;
        for (int part : parts) {
            sum = 31 * sum + part;
        }
        return sum;
    }

    private static void refusedMovesAreNoMoves() {
        due.by("UnsupportedOperationException if it is barred");
        Sowingcourt x = Table.game('s', 'n', "", 0, 1, 1, 1);
        due.fails("move(0)", () -> x.move(0), UnsupportedOperationException.class);
        due.fails("move(3)", () -> x.move(3), UnsupportedOperationException.class);
        due.is("length()", x.length(), 0);
        due.fails("laps()", x::laps, NoSuchElementException.class);
        due.fails("undo()", x::undo, UnsupportedOperationException.class);
        due.is("give(0, 1)", x.give(0, 1), 4);
        due.is("times()", x.times(), 1);
    }

    private static void handicapsUpToTheFirstMove() {
        due.by("UnsupportedOperationException if there was a move, also one that was taken back");
        Sowingcourt x = Table.game('s', 'n', "", 1, 1, 1, 1);
        due.is("give(0, 2) ahead of the first move", x.give(0, 2), 5);
        x.move(0);
        due.fails("give behind a move", () -> x.give(0, 1), UnsupportedOperationException.class);
        x.undo();
        due.fails("give behind one that was taken back", () -> x.give(0, 1), UnsupportedOperationException.class);
        due.is("shown", Table.shown(x), "2 1 /1 1 0 0");
        x.start(0);
        due.is("give(0, 2) in the next game", x.give(0, 2), 5);
        Sowingcourt ended = Table.game('s', 'n', "", 1, 0, 0, 0);
        ended.move(0);
        due.fails("give in one that is over", () -> ended.give(0, 1), IllegalStateException.class);
        ended.undo();
        due.fails("give as the end was taken back", () -> ended.give(0, 1), UnsupportedOperationException.class);
    }
}
