/** Promises 8 to 15: a game is begun, places are given, laps are sown, seeds are captured, moves are taken back. */
public final class SowingTest {
    private static final Due due = new Due("SowingTest");

    public static void main(String[] args) {
        startBegins();
        startKeepsTheKind();
        giveChangesHoles();
        giveRefuses();
        singleLaps();
        ownStores();
        skippedOrigins();
        relayLaps();
        followingLaps();
        endlessMoves();
        captureOfOpposites();
        captureOfTwosAndThrees();
        captureOfEvens();
        grandSlams();
        barredHoles();
        feeding();
        extraTurns();
        refusals();
        undoTakesBack();
        due.end();
    }

    /** Moves once, and looks at what came into the store, at the laps and at the position. */
    private static void sown(Sowingcourt x, int hole, int gained, int laps, String wanted) {
        String call = Table.shown(x) + " move(" + hole + ")";
        due.call(call, () -> x.move(hole), gained);
        due.call(call + " laps", x::laps, laps);
        due.is(call + " shown", Table.shown(x), wanted);
    }

    private static void startBegins() {
        Sowingcourt x = Table.court(3, 4, 's', 'n', "");
        due.fails("start(-1)", () -> x.start(-1), IndexOutOfBoundsException.class);
        due.fails("start(1)", () -> x.start(1), IndexOutOfBoundsException.class);
        due.fails("a start that failed begins nothing", x::length, IllegalStateException.class);
        due.is("start(0)", x.start(0), 24);
        due.is("position", Table.shown(x), "4 4 4 /4 4 4 0 0");
        due.is("turn()", x.turn(), 0);
        due.is("length()", x.length(), 0);
        due.is("times()", x.times(), 1);
        x.move(2);
        x.kind(2, 1, 's', 'n');
        due.is("start of another kind", x.start(1), 4);
        due.is("position", Table.shown(x), "1 1 /1 1 0 0");
        due.is("turn()", x.turn(), 0);
        due.is("length()", x.length(), 0);
        due.fails("undo()", x::undo, UnsupportedOperationException.class);
        due.is("give is free again", x.give(0, 2), 5);
        due.fails("start(2)", () -> x.start(2), IndexOutOfBoundsException.class);
        due.is("a start that failed leaves the game", Table.shown(x), "2 1 /1 1 0 0");
    }

    private static void startKeepsTheKind() {
        Sowingcourt x = Table.court(2, 2, 's', 'n', "s");
        x.start(0);
        x.rule(0, 's', false);
        due.is("the game has own stores", x.move(0), 1);
        x.start(0);
        due.is("the next game has none", x.move(0), 0);
        x.rule(0, 's', true);
        due.is("and keeps none", x.move(3), 0);
        due.is("isSound()", x.isSound(), true);
    }

    private static void giveChangesHoles() {
        Sowingcourt x = Table.court(2, 3, 's', 'n', "");
        x.start(0);
        due.is("give(0, 9)", x.give(0, 9), 18);
        due.is("give(3, 0)", x.give(3, 0), 15);
        due.is("position", Table.shown(x), "9 3 /3 0 0 0");
        due.is("give(0, 0)", x.give(0, 0), 6);
        due.is("give(1, 0)", x.give(1, 0), 3);
        due.is("moves() with all barred", x.moves(), 0);
        due.is("isOver() with all barred", x.isOver(), false);
        due.is("turn() with all barred", x.turn(), 0);
        due.is("times() with all barred", x.times(), 1);
        due.is("give(1, 1) goes on", x.give(1, 1), 4);
        due.is("moves()", x.moves(), 2);
        x.rule(0, 's', true);
        due.is("a rule behind the start is not of the game", x.move(1), 0);
    }

    private static void giveRefuses() {
        Sowingcourt x = Table.court(2, 1, 's', 'n', "");
        due.fails("give without a game", () -> x.give(9, 99), IllegalStateException.class);
        x.start(0);
        for (int hole : new int[] {-1, 4, 10, Integer.MAX_VALUE, Integer.MIN_VALUE}) {
            due.fails("give(" + hole + ", 1)", () -> x.give(hole, 1), IndexOutOfBoundsException.class);
            due.fails("give(" + hole + ", 10)", () -> x.give(hole, 10), IndexOutOfBoundsException.class);
        }
        due.fails("give(0, -1)", () -> x.give(0, -1), IllegalArgumentException.class);
        due.fails("give(0, 10)", () -> x.give(0, 10), IllegalArgumentException.class);
        due.is("nothing changed", Table.shown(x), "1 1 /1 1 0 0");
        x.move(0);
        due.fails("give behind a move", () -> x.give(0, 1), UnsupportedOperationException.class);
        due.fails("give behind a move, out of range", () -> x.give(0, 10), IllegalArgumentException.class);
        due.fails("give behind a move, no such hole", () -> x.give(4, 10), IndexOutOfBoundsException.class);
        x.undo();
        due.fails("give behind a move that was taken back", () -> x.give(0, 1), UnsupportedOperationException.class);
        x.start(0);
        due.is("give in the next game", x.give(0, 1), 4);
        Sowingcourt over = Table.game('s', 'n', "", 0, 1, 0, 0);
        over.move(1);
        over.move(2);
        due.is("a game that is over", over.isOver(), true);
        due.fails("give in it", () -> over.give(9, 99), IllegalStateException.class);
    }

    private static void singleLaps() {
        Sowingcourt x = Table.game('s', 'n', "", 2, 2, 2, 2);
        sown(x, 0, 0, 1, "0 3 /3 2 0 0");
        due.is("turn()", x.turn(), 1);
        sown(x, 3, 0, 1, "1 4 /3 0 0 0");
        due.is("turn()", x.turn(), 0);
        sown(Table.game('s', 'n', "", 7, 1, 1, 1), 0, 0, 1, "1 3 /3 3 0 0");
        sown(Table.game('s', 'n', "", 0, 4, 0, 0), 1, 0, 1, "1 1 /1 1 0 0");
        sown(Table.game('s', 'n', "", 1, 2, 3, 4, 5, 6), 2, 0, 1, "1 2 0 /5 6 7 0 0");
        sown(Table.game('s', 'n', "", 1, 2, 3, 4, 9, 6, 7, 8, 9, 5), 4, 0, 1, "2 3 4 5 0 /7 8 9 10 6 0 0");
    }

    private static void ownStores() {
        Sowingcourt x = Table.game('s', 'n', "s", 3, 3, 3, 3);
        sown(x, 0, 1, 1, "0 4 /4 3 1 0");
        sown(x, 3, 1, 1, "1 5 /4 0 1 1");
        sown(x, 1, 1, 1, "2 1 /5 1 2 1");
        sown(x, 2, 1, 1, "3 2 /1 2 2 2");
        sown(Table.game('s', 'n', "s", 1, 9, 0, 0), 1, 2, 1, "3 1 /2 2 2 0");
        due.is("each keeps an own store", x.store(0) + 10 * x.store(1), 22);
    }

    private static void skippedOrigins() {
        sown(Table.game('s', 'n', "o", 7, 1, 1, 1), 0, 0, 1, "0 4 /3 3 0 0");
        sown(Table.game('s', 'n', "o", 3, 0, 1, 1), 0, 0, 1, "0 1 /2 2 0 0");
        sown(Table.game('s', 'n', "o", 4, 0, 1, 1), 0, 0, 1, "0 2 /2 2 0 0");
        sown(Table.game('s', 'n', "os", 0, 9, 0, 0), 1, 3, 1, "2 0 /2 2 3 0");
        sown(Table.game('s', 'n', "os", 9, 0, 0, 0), 0, 2, 1, "0 3 /2 2 2 0");
        sown(Table.game('r', 'n', "o", 1, 7, 0, 0), 0, 0, 12, "5 1 /2 0 0 0");
    }

    private static void relayLaps() {
        sown(Table.game('r', 'n', "", 1, 1, 1, 1), 0, 0, 3, "1 1 /2 0 0 0");
        sown(Table.game('r', 'n', "", 8, 1, 1, 1), 0, 0, 3, "1 5 /1 4 0 0");
        sown(Table.game('r', 'n', "", 4, 1, 1, 1), 0, 0, 1, "1 2 /2 2 0 0");
        sown(Table.game('r', 'n', "s", 1, 1, 1, 1), 1, 1, 1, "1 0 /1 1 1 0");
        sown(Table.game('r', 'n', "s", 1, 1, 0, 1), 0, 1, 2, "0 0 /1 1 1 0");
    }

    private static void followingLaps() {
        sown(Table.game('p', 'n', "", 1, 1, 1, 1), 0, 0, 2, "0 2 /0 2 0 0");
        sown(Table.game('p', 'n', "s", 1, 1, 1, 1), 0, 0, 2, "0 2 /0 2 0 0");
        sown(Table.game('p', 'n', "s", 1, 1, 1, 1), 1, 1, 1, "1 0 /1 1 1 0");
        sown(Table.game('p', 'n', "", 1, 5, 0, 0), 0, 0, 1, "0 0 /0 0 6 0");
        sown(Table.game('p', 'n', "", 0, 2, 0, 0), 1, 0, 1, "0 0 /1 1 0 0");
    }

    private static void endlessMoves() {
        Sowingcourt x = Table.game('p', 'n', "", 2, 1, 0, 1);
        due.is("barred(0)", x.barred(0), 'l');
        due.is("moves()", x.moves(), 2);
        due.fails("move(0)", () -> x.move(0), UnsupportedOperationException.class);
        due.is("it stays", Table.shown(x), "2 1 /0 1 0 0");
        Sowingcourt most = Table.game('p', 'n', "", 6, 2, 4, 5, 0, 3);
        due.is("100 laps are not endless", most.barred(0), '-');
        most.move(0);
        due.is("laps()", most.laps(), 100);
        due.is("101 laps are endless", Table.game('p', 'n', "", 5, 1, 2, 6, 2, 4).barred(1), 'l');
        Sowingcourt fed = Table.game('p', 'n', "f", 2, 1, 0, 1);
        due.is("endless with feeding", fed.barred(0), 'l');
    }

    private static void captureOfOpposites() {
        sown(Table.game('s', 'o', "", 1, 0, 3, 2), 0, 4, 1, "0 0 /0 2 4 0");
        sown(Table.game('s', 'o', "", 1, 0, 0, 2), 0, 0, 1, "0 1 /0 2 0 0");
        sown(Table.game('s', 'o', "", 1, 1, 3, 2), 0, 0, 1, "0 2 /3 2 0 0");
        sown(Table.game('s', 'o', "", 5, 1, 0, 2), 1, 0, 1, "5 0 /1 2 0 0");
        sown(Table.game('s', 'o', "", 4, 0, 1, 0), 0, 2, 1, "0 1 /2 0 2 0");
        sown(Table.game('s', 'o', "s", 1, 1, 3, 2), 1, 1, 1, "1 0 /3 2 1 0");
        Sowingcourt x = Table.game('s', 'o', "", 0, 1, 1, 0);
        x.move(1);
        sown(x, 2, 0, 1, "1 0 /0 1 0 0");
        Sowingcourt y = Table.game('s', 'o', "", 5, 1, 1, 0);
        y.move(1);
        sown(y, 2, 0, 1, "6 0 /0 1 0 0");
        Sowingcourt z = Table.game('s', 'o', "", 5, 1, 1, 0, 0, 0);
        z.move(2);
        sown(z, 3, 2, 1, "5 0 0 /0 0 0 0 2");
    }

    private static void captureOfTwosAndThrees() {
        sown(Table.game('s', 'c', "", 0, 0, 3, 1, 3, 1), 2, 2, 1, "0 0 0 /2 4 0 2 0");
        sown(Table.game('s', 'c', "", 1, 0, 3, 1, 2, 1), 2, 7, 1, "0 0 0 /0 0 0 8 0");
        sown(Table.game('s', 'c', "", 1, 0, 3, 3, 2, 1), 2, 5, 1, "1 0 0 /4 0 0 5 0");
        sown(Table.game('s', 'c', "", 2, 1, 1, 3), 0, 2, 1, "0 2 /0 3 2 0");
        sown(Table.game('s', 'c', "", 1, 2, 1, 3), 1, 0, 1, "1 0 /2 4 0 0");
        sown(Table.game('s', 'c', "", 1, 2, 3, 0), 1, 0, 1, "1 0 /4 1 0 0");
        sown(Table.game('s', 'c', "", 1, 1, 1, 1), 0, 0, 1, "0 2 /1 1 0 0");
        Sowingcourt x = Table.game('s', 'c', "", 1, 1, 2, 2);
        sown(x, 0, 0, 1, "0 2 /2 2 0 0");
        sown(x, 3, 3, 1, "1 0 /2 0 0 3");
        Sowingcourt both = Table.game('s', 'c', "", 2, 1, 2, 2);
        sown(both, 1, 3, 1, "2 0 /0 2 3 0");
        sown(both, 3, 0, 1, "3 1 /0 0 3 0");
    }

    private static void captureOfEvens() {
        sown(Table.game('s', 'e', "", 1, 1, 1, 1), 1, 2, 1, "1 0 /0 1 2 0");
        sown(Table.game('s', 'e', "", 1, 2, 1, 7), 1, 8, 1, "1 0 /2 0 8 0");
        sown(Table.game('s', 'e', "", 1, 1, 2, 1), 1, 0, 1, "1 0 /3 1 0 0");
        sown(Table.game('s', 'e', "", 1, 1, 1, 1), 0, 0, 1, "0 2 /1 1 0 0");
        sown(Table.game('p', 'e', "", 0, 1, 1, 0), 1, 2, 1, "0 0 /0 0 2 0");
        sown(Table.game('p', 'e', "", 0, 1, 1, 1), 1, 0, 2, "1 0 /2 0 0 0");
        sown(Table.game('s', 'n', "", 1, 1, 1, 1), 1, 0, 1, "1 0 /2 1 0 0");
    }

    private static void grandSlams() {
        sown(Table.game('s', 'e', "g", 1, 1, 1, 0), 1, 0, 1, "1 0 /2 0 0 0");
        sown(Table.game('s', 'e', "g", 1, 1, 1, 1), 1, 2, 1, "1 0 /0 1 2 0");
        sown(Table.game('s', 'c', "g", 1, 0, 3, 1, 2, 1), 2, 0, 1, "1 0 0 /2 3 2 0 0");
        sown(Table.game('s', 'c', "g", 1, 0, 3, 3, 2, 1), 2, 5, 1, "1 0 0 /4 0 0 5 0");
        sown(Table.game('s', 'o', "g", 1, 0, 3, 0), 0, 0, 1, "0 1 /3 0 0 0");
        sown(Table.game('s', 'o', "g", 1, 0, 3, 1), 0, 4, 1, "0 0 /0 1 4 0");
        sown(Table.game('s', 'e', "", 1, 1, 1, 0), 1, 2, 1, "0 0 /0 0 3 0");
    }

    private static void barredHoles() {
        Sowingcourt x = Table.game('s', 'n', "", 0, 1, 0, 1);
        due.is("barred(0)", x.barred(0), 'e');
        due.is("barred(1)", x.barred(1), '-');
        due.is("barred(2), empty and not an own one", x.barred(2), 'o');
        due.is("barred(3)", x.barred(3), 'o');
        due.is("moves()", x.moves(), 2);
        x.move(1);
        due.is("barred(0) of the other", x.barred(0), 'o');
        due.is("barred(1) of the other", x.barred(1), 'o');
        due.is("barred(2) now", x.barred(2), '-');
        due.is("barred(3) now", x.barred(3), '-');
        due.is("moves() now", x.moves(), 12);
        Sowingcourt wide = Table.court(5, 1, 's', 'n', "");
        wide.start(0);
        due.is("moves() of five", wide.moves(), 31);
        wide.move(0);
        due.is("moves() of five of the other", wide.moves(), 31 << 5);
    }

    private static void feeding() {
        Sowingcourt x = Table.game('s', 'n', "f", 1, 1, 0, 0);
        due.is("barred(0) does not feed", x.barred(0), 'f');
        due.is("barred(1) feeds", x.barred(1), '-');
        due.fails("move(0)", () -> x.move(0), UnsupportedOperationException.class);
        due.is("without feeding", Table.game('s', 'n', "", 1, 1, 0, 0).barred(0), '-');
        due.is("the other one has seeds", Table.game('s', 'n', "f", 1, 1, 0, 1).barred(0), '-');
        due.is("all it had is captured", Table.game('s', 'e', "f", 1, 1, 1, 0).barred(1), '-');
        due.is("all it was fed is captured", Table.game('s', 'c', "of", 0, 8, 0, 0).barred(1), 'f');
        due.is("that is no capture", Table.game('s', 'c', "ofg", 0, 8, 0, 0).barred(1), '-');
        due.is("nothing is captured", Table.game('s', 'n', "of", 0, 8, 0, 0).barred(1), '-');
        due.is("empty is first", Table.game('s', 'n', "f", 0, 1, 0, 0).barred(0), 'e');
        due.is("a store feeds nobody", Table.game('s', 'n', "sf", 0, 1, 0, 0).barred(1), 'f');
        Sowingcourt stopped = Table.game('s', 'n', "f", 1, 1, 1, 1);
        stopped.move(1);
        stopped.move(3);
        due.is("position", Table.shown(stopped), "2 0 /2 0 0 0");
        Sowingcourt last = Table.game('s', 'n', "sf", 0, 1, 0, 1);
        last.move(1);
        due.is("a move that can't feed bars, and that ends", last.isOver(), true);
        due.is("position", Table.shown(last), "0 0 /0 0 1 1");
    }

    private static void extraTurns() {
        Sowingcourt x = Table.game('s', 'n', "sx", 1, 1, 1, 1);
        sown(x, 1, 1, 1, "1 0 /1 1 1 0");
        due.is("turn() behind the store", x.turn(), 0);
        sown(x, 0, 0, 1, "0 1 /1 1 1 0");
        due.is("turn() behind a hole", x.turn(), 1);
        sown(x, 3, 1, 1, "0 1 /1 0 1 1");
        due.is("turn() of the other behind the store", x.turn(), 1);
        Sowingcourt none = Table.game('s', 'n', "s", 1, 1, 1, 1);
        none.move(1);
        due.is("turn() without extra turns", none.turn(), 1);
        Sowingcourt past = Table.game('s', 'n', "sx", 1, 2, 1, 1);
        past.move(1);
        due.is("turn() behind a hole past the store", past.turn(), 1);
        Sowingcourt later = Table.game('r', 'n', "sx", 1, 5, 0, 0);
        sown(later, 0, 2, 2, "1 1 /1 1 2 0");
        due.is("turn() behind a last lap into the store", later.turn(), 0);
        Sowingcourt captured = Table.game('s', 'e', "sx", 0, 2, 1, 1);
        sown(captured, 1, 3, 1, "0 0 /0 1 3 0");
        due.is("turn() behind a capture", captured.turn(), 1);
    }

    private static void refusals() {
        Sowingcourt x = new Sowingcourt();
        due.fails("move without a game", () -> x.move(-1), IllegalStateException.class);
        due.fails("barred without a game", () -> x.barred(-1), IllegalStateException.class);
        due.fails("moves without a game", x::moves, IllegalStateException.class);
        due.fails("seeds without a game", () -> x.seeds(-1), IllegalStateException.class);
        due.fails("store without a game", () -> x.store(2), IllegalStateException.class);
        due.fails("undo without a game", x::undo, UnsupportedOperationException.class);
        Sowingcourt on = Table.game('s', 'n', "", 0, 1, 1, 1);
        for (int hole : new int[] {-1, 4, 9, 10, 11, 12, 13, Integer.MAX_VALUE, Integer.MIN_VALUE}) {
            due.fails("move(" + hole + ")", () -> on.move(hole), IndexOutOfBoundsException.class);
            due.fails("barred(" + hole + ")", () -> on.barred(hole), IndexOutOfBoundsException.class);
            due.fails("seeds(" + hole + ")", () -> on.seeds(hole), IndexOutOfBoundsException.class);
        }
        for (int player : new int[] {-1, 2, Integer.MAX_VALUE, Integer.MIN_VALUE}) {
            due.fails("store(" + player + ")", () -> on.store(player), IndexOutOfBoundsException.class);
        }
        due.fails("move of the other", () -> on.move(2), UnsupportedOperationException.class);
        due.fails("move of an empty one", () -> on.move(0), UnsupportedOperationException.class);
        due.is("nothing changed", Table.state(on), "0 1 /1 1 0 0 turn 0 moves 2 over false length 0 times 1 laps "
                + "throws.NoSuchElementException");
        due.is("give is still free", on.give(0, 1), 4);
        Sowingcourt over = Table.game('s', 'n', "", 0, 1, 0, 0);
        over.move(1);
        over.move(2);
        due.fails("move in a game that is over", () -> over.move(-1), IllegalStateException.class);
        due.fails("barred in a game that is over", () -> over.barred(-1), IllegalStateException.class);
        due.fails("moves in a game that is over", over::moves, IllegalStateException.class);
        due.is("seeds in a game that is over", over.seeds(3), 0);
        due.is("store in a game that is over", over.store(1), 1);
    }

    private static void undoTakesBack() {
        Sowingcourt x = Table.game('r', 'o', "sx", 3, 2, 4, 2, 3, 1);
        String[] states = new String[40];
        int[] holes = new int[40];
        int count = 0;
        while (count < 40 && !x.isOver()) {
            states[count] = Table.state(x);
            holes[count] = Integer.numberOfTrailingZeros(x.moves());
            x.move(holes[count]);
            count++;
        }
        due.is("a game comes to its end", x.isOver(), true);
        while (count > 0) {
            count--;
            due.call("undo()", x::undo, holes[count]);
            due.is("the state behind undo()", Table.state(x), states[count]);
        }
        due.fails("undo() of none", x::undo, UnsupportedOperationException.class);
        due.is("given seeds stay", Table.shown(x), "3 2 4 /2 3 1 0 0");
        due.is("isSound()", x.isSound(), true);
    }
}
