import java.util.NoSuchElementException;

/** The three runs of the document's "Examples". */
public final class ExamplesTest {
    private static final Due due = new Due("ExamplesTest");

    public static void main(String[] args) {
        boardByRows();
        ringByCopies();
        raceWithBarredPlaces();
        due.end();
    }

    private static void boardByRows() {
        Sowingcourt x = new Sowingcourt();
        due.is("kind(2, 2, 's', 'o')", x.kind(2, 2, 's', 'o'), 0);
        due.is("rule(0, 's', true)", x.rule(0, 's', true), false);
        due.is("rule(0, 'x', true)", x.rule(0, 'x', true), false);
        due.is("start(0)", x.start(0), 8);
        due.is("line()", x.line(), 12);
        due.is("sign(4)", x.sign(4), '/');
        due.is("moves()", x.moves(), 3);
        due.is("move(0)", x.move(0), 1);
        due.is("turn()", x.turn(), 0);
        due.is("store(0)", x.store(0), 1);
        due.is("move(1)", x.move(1), 1);
        due.is("seeds(2)", x.seeds(2), 3);
        due.is("undo()", x.undo(), 1);
        due.is("length()", x.length(), 1);
        due.is("barred(2)", x.barred(2), 'o');
        due.is("barred(1)", x.barred(1), '-');
        due.is("value(0)", x.value(0), 1);
        due.is("value(2)", x.value(2), 1);
        due.is("best(2)", x.best(2), 1);
        due.is("isPuzzle(2)", x.isPuzzle(2), true);
        due.is("blunder(1, 1)", x.blunder(1, 1), 0);
        due.is("move(1) again", x.move(1), 1);
        due.is("number()", x.number(), 3L);
        due.is("times()", x.times(), 1);
        due.is("freeShare()", x.freeShare(), 1.0f);
        due.is("checksum()", x.checksum(), 192591160637L);
        due.is("isSound()", x.isSound(), true);
    }

    private static void ringByCopies() {
        Sowingcourt x = new Sowingcourt();
        due.is("kind(3, 2, 'r', 'c')", x.kind(3, 2, 'r', 'c'), 0);
        due.is("copy(0)", x.copy(0), 1);
        due.is("rule(1, 'o', true)", x.rule(1, 'o', true), false);
        due.is("rule(1, 'g', true)", x.rule(1, 'g', true), false);
        due.is("unlike(0, 1)", x.unlike(0, 1), 2);
        due.is("parent(1)", x.parent(1), 0);
        due.is("meanUnlike()", x.meanUnlike(), 2.0);
        due.is("start(1)", x.start(1), 12);
        due.is("give(0, 0)", x.give(0, 0), 10);
        due.is("give(5, 9)", x.give(5, 9), 17);
        due.is("moves()", x.moves(), 6);
        due.is("move(1)", x.move(1), 0);
        due.is("laps()", x.laps(), 2);
        due.is("move(5)", x.move(5), 0);
        due.is("laps() again", x.laps(), 11);
        due.is("isOver()", x.isOver(), false);
        due.is("line()", x.line(), 16);
        due.is("play(0, 'l')", x.play(0, 'l'), 67);
        due.is("play(0, 'c')", x.play(0, 'c'), 0);
        due.is("play(0, 'd')", x.play(0, 'd'), 6);
        due.is("play(1, 'd')", x.play(1, 'd'), -2);
        due.is("type(0)", x.type(0), 1);
        due.is("type(3)", x.type(3), 2);
        due.is("type(1)", x.type(1), 3);
        due.is("explains(0)", x.explains(0), 3);
        due.is("explains(1)", x.explains(1), 3);
        due.is("explainer()", x.explainer(), 0);
        due.is("isSound()", x.isSound(), true);
    }

    private static void raceWithBarredPlaces() {
        Sowingcourt x = new Sowingcourt();
        due.is("kind(2, 1, 'p', 'e')", x.kind(2, 1, 'p', 'e'), 0);
        due.is("rule(0, 'f', true)", x.rule(0, 'f', true), false);
        due.is("start(0)", x.start(0), 4);
        due.is("give(2, 0)", x.give(2, 0), 3);
        due.is("give(3, 0)", x.give(3, 0), 2);
        due.is("give(0, 1)", x.give(0, 1), 2);
        due.is("give(1, 1)", x.give(1, 1), 2);
        due.is("barred(0)", x.barred(0), 'f');
        due.is("barred(1)", x.barred(1), '-');
        due.is("moves()", x.moves(), 2);
        due.is("move(1)", x.move(1), 0);
        due.is("isOver()", x.isOver(), false);
        due.fails("winner()", x::winner, NoSuchElementException.class);
        due.is("store(0)", x.store(0), 0);
        due.is("store(1)", x.store(1), 0);
        due.is("times()", x.times(), 1);
        due.is("undo()", x.undo(), 1);
        due.is("many(4, 4)", x.many(4, 4), 35L);
        due.is("inRow(4, 4, 0, 3)", x.inRow(4, 4, 0, 3), 4);
        due.is("inRow(4, 4, 34, 0)", x.inRow(4, 4, 34, 0), 4);
        due.is("number()", x.number(), 8L);
        due.is("wipe()", x.wipe(), 0);
        due.is("checksum()", x.checksum(), 193504431609L);
        due.is("isSound()", x.isSound(), true);
    }
}
