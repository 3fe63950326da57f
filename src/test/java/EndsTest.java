import java.util.NoSuchElementException;
import java.util.Random;

/** Promises 16 to 21: turns, ends, winners, laps, lengths and positions that come again. */
public final class EndsTest {
    private static final Due due = new Due("EndsTest");

    public static void main(String[] args) {
        withoutAGame();
        endAsAllAreBarred();
        endByRepetition();
        repetitionLooksAtStoresAndTurn();
        undoneMovesDoNotRepeat();
        winners();
        lapsOfTheLastMove();
        handicapsDoNotEnd();
        longGames();
        due.end();
    }

    private static void withoutAGame() {
        Sowingcourt x = Table.court(2, 1, 's', 'n', "");
        due.fails("turn()", x::turn, IllegalStateException.class);
        due.fails("isOver()", x::isOver, IllegalStateException.class);
        due.fails("winner()", x::winner, IllegalStateException.class);
        due.fails("laps()", x::laps, IllegalStateException.class);
        due.fails("length()", x::length, IllegalStateException.class);
        due.fails("times()", x::times, IllegalStateException.class);
    }

    private static void endAsAllAreBarred() {
        Sowingcourt x = Table.game('s', 'n', "", 0, 1, 0, 0);
        due.is("move(1)", x.move(1), 0);
        due.is("isOver()", x.isOver(), false);
        due.is("turn()", x.turn(), 1);
        due.is("move(2) has no seeds of the end in it", x.move(2), 0);
        due.is("isOver() as player 0 has none", x.isOver(), true);
        due.is("shown", Table.shown(x), "0 0 /0 0 0 1");
        due.fails("turn() of a game that is over", x::turn, IllegalStateException.class);
        due.is("winner()", x.winner(), 1);
        due.is("length()", x.length(), 2);
        due.is("laps()", x.laps(), 1);
        due.is("times() ahead of the end", x.times(), 1);
        due.is("undo() of an end", x.undo(), 2);
        due.is("isOver() no more", x.isOver(), false);
        due.fails("winner() no more", x::winner, NoSuchElementException.class);
        due.is("shown", Table.shown(x), "0 0 /1 0 0 0");
        due.is("turn()", x.turn(), 1);
        due.is("length()", x.length(), 1);
        x.move(2);
        due.is("the same end again", Table.shown(x), "0 0 /0 0 0 1");
        Sowingcourt both = Table.game('s', 'n', "s", 0, 1, 3, 4);
        both.move(1);
        both.move(3);
        both.undo();
        due.is("isSound()", both.isSound(), true);
        Sowingcourt own = Table.game('s', 'n', "s", 1, 0, 0, 1);
        own.move(0);
        own.move(3);
        own.move(1);
        due.is("player 1 has none", Table.shown(own), "0 0 /0 0 1 1");
        due.is("nobody has won", own.winner(), -1);
    }

    private static void play(Sowingcourt x, int... holes) {
        for (int hole : holes) {
            due.is("isOver() ahead of " + hole, x.isOver(), false);
            x.move(hole);
        }
    }

    private static void endByRepetition() {
        Sowingcourt x = Table.game('s', 'n', "", 1, 1, 0, 0);
        due.is("times() at first", x.times(), 1);
        play(x, 1, 2, 0);
        due.is("times() in between", x.times(), 1);
        play(x, 3);
        due.is("times() second", x.times(), 2);
        due.is("shown second", Table.shown(x), "1 1 /0 0 0 0");
        play(x, 1, 2, 0);
        due.is("times() second in between", x.times(), 2);
        play(x, 3);
        due.is("isOver() third", x.isOver(), true);
        due.is("times() third, as ahead of the end", x.times(), 3);
        due.is("shown third", Table.shown(x), "0 0 /0 0 2 0");
        due.is("winner()", x.winner(), 0);
        due.is("length()", x.length(), 8);
        due.is("isSound()", x.isSound(), true);
        due.is("undo()", x.undo(), 3);
        due.is("times() behind undo()", x.times(), 2);
        due.is("value(1) does not look at what comes again", x.value(1), 0);
        play(x, 3);
        due.is("isOver() once more", x.isOver(), true);
    }

    private static void repetitionLooksAtStoresAndTurn() {
        Sowingcourt x = Table.game('s', 'n', "s", 1, 1, 1, 1);
        x.move(1);
        x.move(3);
        due.is("other stores, other holes", x.times(), 1);
        Sowingcourt turned = Table.game('s', 'n', "", 1, 0, 1, 0);
        int[] round = {0, 2, 1, 3};
        for (int i = 0; i < 7; i++) {
            turned.move(round[i % 4]);
            due.is("isOver() of two that go round", turned.isOver(), false);
            due.is("times() of two that go round", turned.times(), 1 + (i + 1) / 4);
        }
        turned.move(3);
        due.is("the third time ends it", turned.isOver(), true);
        due.is("each one has one", Table.shown(turned), "0 0 /0 0 1 1");
        due.is("nobody has won", turned.winner(), -1);
    }

    private static void undoneMovesDoNotRepeat() {
        Sowingcourt x = Table.game('s', 'n', "", 1, 1, 0, 0);
        for (int i = 0; i < 5; i++) {
            x.move(1);
            due.is("times() of a move that is taken back each time", x.times(), 1);
            x.undo();
            due.is("times() behind undo()", x.times(), 1);
        }
        due.is("isOver()", x.isOver(), false);
        x.start(0);
        due.is("times() in a new game", x.times(), 1);
    }

    private static void winners() {
        Sowingcourt x = Table.game('s', 'o', "", 1, 0, 3, 0);
        due.fails("winner() at first", x::winner, NoSuchElementException.class);
        x.move(0);
        due.is("isOver() as all is captured", x.isOver(), true);
        due.is("winner()", x.winner(), 0);
        due.is("store(0)", x.store(0), 4);
        due.is("store(1)", x.store(1), 0);
        Sowingcourt y = Table.game('s', 'n', "", 0, 2, 0, 0);
        y.move(1);
        y.move(2);
        due.is("winner() is player 1", y.winner(), 1);
        Sowingcourt one = Table.game('s', 'n', "", 1, 0, 0, 0);
        one.move(0);
        due.is("winner() by one seed", one.winner(), 0);
    }

    private static void lapsOfTheLastMove() {
        Sowingcourt x = Table.game('r', 'n', "", 1, 1, 1, 1);
        due.fails("laps() of none", x::laps, NoSuchElementException.class);
        x.move(0);
        due.is("laps()", x.laps(), 3);
        due.is("shown", Table.shown(x), "1 1 /2 0 0 0");
        x.move(2);
        due.is("laps() of the next one: from 2, then from 0", x.laps(), 2);
        x.undo();
        due.is("laps() behind undo()", x.laps(), 3);
        x.undo();
        due.fails("laps() as none is left", x::laps, NoSuchElementException.class);
        due.is("length()", x.length(), 0);
        x.move(1);
        due.is("laps() of another", x.laps(), 3);
        Sowingcourt y = Table.game('p', 'n', "", 1, 1, 1, 1);
        y.move(0);
        y.move(3);
        due.is("laps() of a second move", y.laps(), 1);
        y.undo();
        due.is("laps() of the first one", y.laps(), 2);
    }

    /** As long as an object is used, and longer: then a move is refused, and all else still answers. */
    private static void longGames() {
        Sowingcourt x = Table.court(5, 5, 's', 'n', "");
        x.start(0);
        Random random = new Random(7);
        int[] holes = new int[512];
        for (int i = 0; i < 512; i++) {
            do {
                holes[i] = random.nextInt(10);
            } while ((x.moves() >> holes[i] & 1) == 0);
            x.move(holes[i]);
        }
        due.is("length() of a long game", x.length(), 512);
        due.is("isOver() of a long game", x.isOver(), false);
        due.is("isSound() of a long game", x.isSound(), true);
        String state = Table.state(x);
        due.fails("move behind 512", () -> x.move(Integer.numberOfTrailingZeros(x.moves())),
                IllegalStateException.class);
        due.is("the game stays", Table.state(x), state);
        for (int i = 511; i >= 0; i--) {
            due.is("undo() of a long game", x.undo(), holes[i]);
        }
        due.is("shown", Table.shown(x), "5 5 5 5 5 /5 5 5 5 5 0 0");
    }

    private static void handicapsDoNotEnd() {
        Sowingcourt x = Table.court(2, 1, 's', 'n', "");
        x.start(0);
        for (int hole = 0; hole < 4; hole++) {
            x.give(hole, 0);
        }
        due.is("isOver() without seeds", x.isOver(), false);
        due.is("turn() without seeds", x.turn(), 0);
        due.fails("winner() without seeds", x::winner, NoSuchElementException.class);
        due.is("freeShare() without seeds", x.freeShare(), 0.0f);
        due.is("isSound() without seeds", x.isSound(), true);
        x.give(0, 1);
        x.move(0);
        due.is("a move ends it", x.isOver(), true);
        due.is("shown", Table.shown(x), "0 0 /0 0 1 0");
    }
}
