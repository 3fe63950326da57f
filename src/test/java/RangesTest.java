import java.util.NoSuchElementException;

/** Each range that the document names: its first and its last number, those just outside, and those far out. */
public final class RangesTest {
    private static final Due due = new Due("RangesTest");
    private static final Class<IllegalArgumentException> WRONG = IllegalArgumentException.class;
    private static final Class<IllegalStateException> STATE = IllegalStateException.class;
    private static final Class<IndexOutOfBoundsException> OUTSIDE = IndexOutOfBoundsException.class;
    private static final Class<NoSuchElementException> NONE = NoSuchElementException.class;

    public static void main(String[] args) {
        atMostSixKinds();
        holesOfAKind();
        seedsOfAKind();
        lapsAndCaptures();
        fiveThings();
        numbersOfKinds();
        unlikeFromNoneToNine();
        holesOfABoard();
        twoPlayers();
        givenSeeds();
        depthsFromNought();
        depthsFromOne();
        holesOfRows();
        seedsOfRows();
        numbersOfRows();
        holesInRows();
        lettersOfPlays();
        holesOfARecord();
        atMostSixtyTyped();
        placesOfSigns();
        due.end();
    }

    private static int[] farOut() {
        return new int[] {Integer.MIN_VALUE, Integer.MIN_VALUE + 1, -256, 256, 65536, Integer.MAX_VALUE};
    }

    private static void atMostSixKinds() {
        due.by("At most 6 kinds are numbered from 0");
        Sowingcourt made = new Sowingcourt();
        Sowingcourt copied = new Sowingcourt();
        copied.kind(3, 2, 's', 'n');
        for (int i = 0; i < 6; i++) {
            due.is("kind " + (i + 1), made.kind(5, 5, 'p', 'e'), i);
            if (i > 0) {
                due.is("copy " + i, copied.copy(i - 1), i);
            }
        }
        for (Sowingcourt x : new Sowingcourt[] {made, copied}) {
            due.fails("kind 7", () -> x.kind(5, 5, 'p', 'e'), STATE);
            due.fails("a copy as kind 7", () -> x.copy(5), STATE);
            due.is("unlike(5, 5)", x.unlike(5, 5), 0);
            due.fails("unlike(5, 6)", () -> x.unlike(5, 6), OUTSIDE);
        }
        due.is("start(5) of those that were made", made.start(5), 50);
        due.is("start(5) of those that were copied", copied.start(5), 12);
    }

    private static void holesOfAKind() {
        due.by("each with as many holes, 2 to 5, for each player");
        for (int holes = 2; holes <= 5; holes++) {
            Sowingcourt x = new Sowingcourt();
            due.is("kind of " + holes, x.kind(holes, 1, 's', 'n'), 0);
            due.is("its seeds", x.start(0), 2 * holes);
        }
        Sowingcourt x = new Sowingcourt();
        for (int holes : new int[] {-3, -2, -1, 0, 1, 6, 7, 10}) {
            due.fails("kind of " + holes, () -> x.kind(holes, 1, 's', 'n'), WRONG);
        }
        for (int holes : farOut()) {
            due.fails("kind of " + holes, () -> x.kind(holes, 1, 's', 'n'), WRONG);
        }
        due.is("no kind was made", x.kind(2, 1, 's', 'n'), 0);
    }

    private static void seedsOfAKind() {
        due.by("as many seeds in each hole at first, 1 to 5");
        for (int seeds = 1; seeds <= 5; seeds++) {
            Sowingcourt x = new Sowingcourt();
            due.is("kind of " + seeds + " seeds", x.kind(5, seeds, 's', 'n'), 0);
            due.is("start(0)", x.start(0), 10 * seeds);
            for (int hole = 0; hole < 10; hole++) {
                due.is("seeds(" + hole + ")", x.seeds(hole), seeds);
            }
        }
        Sowingcourt x = new Sowingcourt();
        for (int seeds : new int[] {-5, -1, 0, 6, 7, 9}) {
            due.fails("kind of " + seeds + " seeds", () -> x.kind(2, seeds, 's', 'n'), WRONG);
        }
        for (int seeds : farOut()) {
            due.fails("kind of " + seeds + " seeds", () -> x.kind(2, seeds, 's', 'n'), WRONG);
        }
        due.is("no kind was made", x.kind(2, 1, 's', 'n'), 0);
    }

    private static void lapsAndCaptures() {
        due.by("a lap, 's', 'r' or 'p', a capture, 'n', 'o', 'c' or 'e'");
        for (char lap : "srp".toCharArray()) {
            for (char capture : "noce".toCharArray()) {
                due.is("kind by " + lap + capture, new Sowingcourt().kind(2, 1, lap, capture), 0);
                due.fails("kind by " + capture + lap, () -> new Sowingcourt().kind(2, 1, capture, lap), WRONG);
            }
        }
        for (char wrong : "qtSRPmdfbNOCE-0 \0\uffff\u0173\u016f".toCharArray()) {
            due.fails("lap " + (int) wrong, () -> new Sowingcourt().kind(2, 1, wrong, 'n'), WRONG);
            due.fails("capture " + (int) wrong, () -> new Sowingcourt().kind(2, 1, 's', wrong), WRONG);
        }
    }

    private static void fiveThings() {
        due.by("five things that hold or not, none at first: 's', 'o', 'g', 'f', 'x'");
        Sowingcourt x = Table.court(2, 1, 's', 'n', "");
        for (char what : "sogfx".toCharArray()) {
            due.is("holds(0, " + what + ") at first", x.holds(0, what), false);
        }
        for (char what : "sogfx".toCharArray()) {
            due.is("rule(0, " + what + ", true)", x.rule(0, what, true), false);
        }
        for (char wrong : "rtnpheywzlcdSOGFX-0 \0\uffff\u0173\u016f".toCharArray()) {
            due.fails("rule " + (int) wrong, () -> x.rule(0, wrong, false), WRONG);
            due.fails("holds " + (int) wrong, () -> x.holds(0, wrong), WRONG);
        }
        for (char what : "sogfx".toCharArray()) {
            due.is("holds(0, " + what + ") still", x.holds(0, what), true);
        }
    }

    private static void numbersOfKinds() {
        due.by("IndexOutOfBoundsException if there is no such kind");
        for (int count = 0; count <= 6; count++) {
            Sowingcourt x = new Sowingcourt();
            for (int i = 0; i < count; i++) {
                x.kind(2, 1, 's', 'n');
            }
            for (int kind : new int[] {-1, count, count + 1, 6, 7}) {
                refusesKind(x, kind);
            }
            for (int kind : farOut()) {
                refusesKind(x, kind);
            }
            if (count > 0) {
                int last = count - 1;
                due.is("holds of the last one", x.holds(last, 'x'), false);
                due.is("unlike of the last one", x.unlike(last, 0), 0);
                due.is("play of the last one", x.play(last, 'l'), 4);
                due.is("explains of the last one", x.explains(last), 0);
                due.is("start of the last one", x.start(last), 4);
            }
        }
    }

    private static void refusesKind(Sowingcourt x, int kind) {
        due.fails("rule of " + kind, () -> x.rule(kind, 's', true), OUTSIDE);
        due.fails("holds of " + kind, () -> x.holds(kind, 's'), OUTSIDE);
        due.fails("copy of " + kind, () -> x.copy(kind), OUTSIDE);
        due.fails("unlike of " + kind, () -> x.unlike(kind, 0), OUTSIDE);
        due.fails("unlike to " + kind, () -> x.unlike(0, kind), OUTSIDE);
        due.fails("unlike of " + kind + " to itself", () -> x.unlike(kind, kind), OUTSIDE);
        due.fails("parent of " + kind, () -> x.parent(kind), OUTSIDE);
        due.fails("start of " + kind, () -> x.start(kind), OUTSIDE);
        due.fails("play of " + kind, () -> x.play(kind, 'l'), OUTSIDE);
        due.fails("explains of " + kind, () -> x.explains(kind), OUTSIDE);
    }

    private static void unlikeFromNoneToNine() {
        due.by("Two kinds are unlike in as many of these nine as are unlike");
        Sowingcourt x = Table.court(2, 1, 's', 'n', "");
        x.kind(2, 1, 's', 'n');
        due.is("in none", x.unlike(0, 1), 0);
        x.kind(3, 2, 'r', 'o');
        int count = 4;
        for (char what : "sogfx".toCharArray()) {
            due.is("in " + count, x.unlike(0, 2), count);
            due.is("the other way in " + count, x.unlike(2, 0), count);
            x.rule(2, what, true);
            count++;
        }
        due.is("in all nine", x.unlike(0, 2), 9);
        due.is("the other way in all nine", x.unlike(2, 0), 9);
    }

    private static void holesOfABoard() {
        due.by("the player 0 has the holes 0 to h less 1, the player 1 those from h to 2 h less 1");
        for (int h = 2; h <= 5; h++) {
            Sowingcourt x = Table.court(h, 1, 's', 'n', "");
            x.start(0);
            for (int turn = 0; turn < 2; turn++) {
                for (int hole = 0; hole < 2 * h; hole++) {
                    boolean own = hole / h == turn;
                    boolean empty = hole == 0 && turn == 1;
                    due.is("barred(" + hole + ") of " + h + " in turn " + turn, x.barred(hole), own ? '-' : 'o');
                    due.is("seeds(" + hole + ") of " + h + " in turn " + turn, x.seeds(hole) == 0, empty);
                }
                for (int hole : new int[] {-1, 2 * h, 2 * h + 1, 10, 11, 12}) {
                    refusesHole(x, hole);
                }
                for (int hole : farOut()) {
                    refusesHole(x, hole);
                }
                x.move(turn == 0 ? 0 : 2 * h - 1);
            }
            due.is("the last hole was moved", x.seeds(2 * h - 1), 0);
        }
    }

    private static void refusesHole(Sowingcourt x, int hole) {
        due.fails("give(" + hole + ", 1)", () -> x.give(hole, 1), OUTSIDE);
        due.fails("move(" + hole + ")", () -> x.move(hole), OUTSIDE);
        due.fails("barred(" + hole + ")", () -> x.barred(hole), OUTSIDE);
        due.fails("seeds(" + hole + ")", () -> x.seeds(hole), OUTSIDE);
        due.fails("blunder(" + hole + ", 1)", () -> x.blunder(hole, 1), OUTSIDE);
    }

    private static void twoPlayers() {
        due.by("IndexOutOfBoundsException if there is no such player");
        Sowingcourt x = Table.game('s', 'n', "s", 1, 2, 2, 1);
        x.move(1);
        x.move(2);
        due.is("store(0)", x.store(0), 1);
        due.is("store(1)", x.store(1), 1);
        for (int player : new int[] {-2, -1, 2, 3}) {
            due.fails("store(" + player + ")", () -> x.store(player), OUTSIDE);
        }
        for (int player : farOut()) {
            due.fails("store(" + player + ")", () -> x.store(player), OUTSIDE);
        }
    }

    private static void givenSeeds() {
        due.by("holes can be given other numbers of seeds, 0 to 9");
        for (int h = 2; h <= 5; h++) {
            Sowingcourt x = Table.court(h, 1, 's', 'n', "");
            x.start(0);
            for (int hole = 0; hole < 2 * h; hole++) {
                due.is("give(" + hole + ", 9)", x.give(hole, 9), 2 * h + 8 * (hole + 1));
                due.is("seeds(" + hole + ")", x.seeds(hole), 9);
                int it = hole;
                for (int seeds : new int[] {-2, -1, 10, 11}) {
                    due.fails("give(" + hole + ", " + seeds + ")", () -> x.give(it, seeds), WRONG);
                }
                for (int seeds : farOut()) {
                    due.fails("give(" + hole + ", " + seeds + ")", () -> x.give(it, seeds), WRONG);
                }
            }
            for (int hole = 0; hole < 2 * h; hole++) {
                due.is("give(" + hole + ", 0)", x.give(hole, 0), 18 * h - 9 * (hole + 1));
                due.is("seeds(" + hole + ")", x.seeds(hole), 0);
            }
        }
    }

    private static void depthsFromNought() {
        due.by("The value of the position for a depth, 0 to 5");
        Sowingcourt x = Table.game('s', 'n', "sx", 2, 1, 1, 1);
        int[] values = {0, 1, 2, 1, 1, 1};
        Sowingcourt forced = Table.game('s', 'n', "s", 0, 0, 1, 0, 1, 0, 0, 0);
        for (int depth = 0; depth <= 5; depth++) {
            due.is("value(" + depth + ")", x.value(depth), values[depth]);
            due.is("value(" + depth + ") of one seed each", forced.value(depth), depth == 3 ? 1 : 0);
        }
        for (int depth : new int[] {-5, -2, -1, 6, 7, 10}) {
            due.fails("value(" + depth + ")", () -> x.value(depth), WRONG);
        }
        for (int depth : farOut()) {
            due.fails("value(" + depth + ")", () -> x.value(depth), WRONG);
        }
    }

    private static void depthsFromOne() {
        due.by("the depth, 1 to 5");
        Sowingcourt x = Table.game('s', 'n', "s", 0, 1, 0, 0);
        for (int depth = 1; depth <= 5; depth++) {
            due.is("best(" + depth + ")", x.best(depth), 1);
            due.is("blunder(1, " + depth + ")", x.blunder(1, depth), 0);
            due.is("isPuzzle(" + depth + ")", x.isPuzzle(depth), true);
        }
        for (int depth : new int[] {-5, -2, -1, 0, 6, 7, 10}) {
            refusesDepth(x, depth);
        }
        for (int depth : farOut()) {
            refusesDepth(x, depth);
        }
    }

    private static void refusesDepth(Sowingcourt x, int depth) {
        due.fails("best(" + depth + ")", () -> x.best(depth), WRONG);
        due.fails("blunder(1, " + depth + ")", () -> x.blunder(1, depth), WRONG);
        due.fails("isPuzzle(" + depth + ")", () -> x.isPuzzle(depth), WRONG);
    }

    private static void holesOfRows() {
        due.by("the holes, 1 to 10");
        Sowingcourt x = new Sowingcourt();
        long[] ofThree = {1, 4, 10, 20, 35, 56, 84, 120, 165, 220};
        for (int holes = 1; holes <= 10; holes++) {
            due.is("many(" + holes + ", 3)", x.many(holes, 3), ofThree[holes - 1]);
            due.is("inRow(" + holes + ", 3, 0, " + (holes - 1) + ")", x.inRow(holes, 3, 0, holes - 1), 3);
        }
        for (int holes : new int[] {-10, -1, 0, 11, 12}) {
            due.fails("many(" + holes + ", 3)", () -> x.many(holes, 3), WRONG);
            due.fails("inRow(" + holes + ", 3, 0, 0)", () -> x.inRow(holes, 3, 0, 0), WRONG);
            due.fails("many(" + holes + ", 0)", () -> x.many(holes, 0), WRONG);
            due.fails("inRow(" + holes + ", 0, 0, 0)", () -> x.inRow(holes, 0, 0, 0), WRONG);
        }
        for (int holes : farOut()) {
            due.fails("many(" + holes + ", 3)", () -> x.many(holes, 3), WRONG);
            due.fails("inRow(" + holes + ", 3, 0, 0)", () -> x.inRow(holes, 3, 0, 0), WRONG);
        }
    }

    private static void seedsOfRows() {
        due.by("the seeds, 0 to 50");
        Sowingcourt x = new Sowingcourt();
        for (int seeds = 0; seeds <= 50; seeds++) {
            due.is("many(2, " + seeds + ")", x.many(2, seeds), seeds + 1L);
            due.is("many(1, " + seeds + ")", x.many(1, seeds), 1L);
            due.is("inRow(1, " + seeds + ", 0, 0)", x.inRow(1, seeds, 0, 0), seeds);
        }
        for (int seeds : new int[] {-50, -1, 51, 52, 89, 90, 91}) {
            due.fails("many(2, " + seeds + ")", () -> x.many(2, seeds), WRONG);
            due.fails("inRow(2, " + seeds + ", 0, 0)", () -> x.inRow(2, seeds, 0, 0), WRONG);
        }
        for (int seeds : farOut()) {
            due.fails("many(2, " + seeds + ")", () -> x.many(2, seeds), WRONG);
            due.fails("inRow(2, " + seeds + ", 0, 0)", () -> x.inRow(2, seeds, 0, 0), WRONG);
        }
    }

    private static void numbersOfRows() {
        due.by("IllegalArgumentException if a number is out of range, or there is no such row");
        Sowingcourt x = new Sowingcourt();
        for (int holes = 1; holes <= 10; holes++) {
            for (int seeds : new int[] {0, 1, 2, 49, 50}) {
                int h = holes;
                long many = x.many(holes, seeds);
                String row = "inRow(" + holes + ", " + seeds + ", ";
                due.is(row + "0) ends with all", x.inRow(holes, seeds, 0, holes - 1), seeds);
                due.is(row + "the last) begins with all", x.inRow(holes, seeds, many - 1, 0), seeds);
                for (long number : new long[] {-1, many, many + 1, 1L << 32, -1L << 32, Long.MIN_VALUE, Long.MAX_VALUE}) {
                    if (number < 0 || number >= many) {
                        due.fails(row + number + ")", () -> x.inRow(h, seeds, number, 0), WRONG);
                    }
                }
            }
        }
    }

    private static void holesInRows() {
        due.by("the hole, from 0; IndexOutOfBoundsException if there is no such hole");
        Sowingcourt x = new Sowingcourt();
        for (int holes = 1; holes <= 10; holes++) {
            int h = holes;
            due.is("the first hole of " + holes, x.inRow(holes, 7, 0, 0), holes == 1 ? 7 : 0);
            due.is("the last hole of " + holes, x.inRow(holes, 7, 0, holes - 1), 7);
            for (int hole : new int[] {-1, holes, holes + 1, 10, 11}) {
                due.fails("hole " + hole + " of " + holes, () -> x.inRow(h, 7, 0, hole), OUTSIDE);
            }
            for (int hole : farOut()) {
                due.fails("hole " + hole + " of " + holes, () -> x.inRow(h, 7, 0, hole), OUTSIDE);
            }
        }
    }

    private static void lettersOfPlays() {
        due.by("'l' how many moves there are, 'c' how often the lead changes, 'd' the store of the player 0 less");
        Sowingcourt x = Table.court(2, 1, 'p', 'n', "s");
        due.is("play(0, 'l')", x.play(0, 'l'), 5);
        due.is("play(0, 'c')", x.play(0, 'c'), 1);
        due.is("play(0, 'd')", x.play(0, 'd'), 0);
        for (char wrong : "kmbeaLCD-0 \0\uffff\u016c\u0163".toCharArray()) {
            due.fails("play(0, " + (int) wrong + ")", () -> x.play(0, wrong), WRONG);
        }
    }

    private static void holesOfARecord() {
        due.by("Types a hole of the record: the hole, 0 to 9");
        Sowingcourt x = new Sowingcourt();
        for (int hole = 0; hole <= 9; hole++) {
            due.is("type(" + hole + ")", x.type(hole), hole + 1);
        }
        for (int hole : new int[] {-9, -1, 10, 11}) {
            due.fails("type(" + hole + ")", () -> x.type(hole), WRONG);
        }
        for (int hole : farOut()) {
            due.fails("type(" + hole + ")", () -> x.type(hole), WRONG);
        }
        due.is("wipe()", x.wipe(), 10);
    }

    private static void atMostSixtyTyped() {
        due.by("A record is a row of holes, at most 60");
        Sowingcourt x = new Sowingcourt();
        for (int count = 1; count <= 60; count++) {
            due.is("type of number " + count, x.type(9), count);
        }
        due.fails("type of number 61", () -> x.type(9), STATE);
        due.fails("type of number 61 again", () -> x.type(0), STATE);
        due.is("wipe()", x.wipe(), 60);
        for (int count = 1; count <= 60; count++) {
            due.is("type of number " + count + " behind wipe()", x.type(0), count);
        }
        due.fails("type of number 61 behind wipe()", () -> x.type(0), STATE);
    }

    private static void placesOfSigns() {
        due.by("the place, from 0; NoSuchElementException if there is no such sign");
        for (int h = 2; h <= 5; h++) {
            Sowingcourt x = Table.court(h, 1, 's', 'n', "");
            x.start(0);
            x.give(0, 7);
            int line = x.line();
            due.is("line() of " + h, line, 4 * h + 4);
            due.is("sign(0)", x.sign(0), '7');
            due.is("sign(1)", x.sign(1), ' ');
            due.is("sign of the / of " + h, x.sign(2 * h), '/');
            due.is("the last sign", x.sign(line - 1), '0');
            for (int place : new int[] {-2, -1, line, line + 1}) {
                due.fails("sign(" + place + ")", () -> x.sign(place), NONE);
            }
            for (int place : farOut()) {
                due.fails("sign(" + place + ")", () -> x.sign(place), NONE);
            }
        }
    }
}
