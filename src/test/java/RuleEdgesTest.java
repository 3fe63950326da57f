import java.util.NoSuchElementException;

/** Where one seed more or less decides: laps that go on, captures, grand slams, feeding, turns, values and leads. */
public final class RuleEdgesTest {
    private static final Due due = new Due("RuleEdgesTest");

    public static void main(String[] args) {
        relayByOneSeed();
        relayBySeedsOfThisLap();
        followingByOneSeed();
        oppositeByOneSeed();
        twosAndThrees();
        twosAndThreesOneByOne();
        evens();
        noCaptures();
        noCaptureBehindAStore();
        grandSlamByOneSeed();
        grandSlamOfSeveral();
        feedingByOneSeed();
        feedingBehindCaptures();
        firstReasonOfAll();
        extraTurnsByTheLastSeed();
        gainsLeaveTheEndOut();
        valuesWithTheSeedsOfAnEnd();
        justOneHole();
        firstOfTheBest();
        blundersByOne();
        leadsThatChange();
        seedsOfAnEndInPlays();
        seedsOfAnEndInChoices();
        due.end();
    }

    /** Moves once, and looks at what came into the store, at the laps and at the position. */
    private static void moved(String call, Sowingcourt x, int hole, int gained, int laps, String shown) {
        due.is(call + ": move(" + hole + ")", x.move(hole), gained);
        due.is(call + ": laps()", x.laps(), laps);
        due.is(call + ": shown", Table.shown(x), shown);
    }

    private static void relayByOneSeed() {
        due.by("if the last seed came into a hole that had seeds ahead of it");
        moved("none ahead", Table.game('r', 'n', "", 1, 0, 1, 1), 0, 0, 1, "0 1 /1 1 0 0");
        moved("one ahead", Table.game('r', 'n', "", 1, 1, 0, 1), 0, 0, 3, "1 1 /1 0 0 0");
    }

    private static void relayBySeedsOfThisLap() {
        due.by("that had seeds ahead of it, also of this lap");
        moved("hole 1 has one of this lap", Table.game('r', 'n', "", 7, 0, 0, 0, 0, 0), 0, 0, 4, "2 1 2 /0 2 0 0 0");
        moved("the origin has none of this lap", Table.game('r', 'n', "", 4, 0, 0, 0), 0, 0, 1, "1 1 /1 1 0 0");
        moved("the origin has one of this lap", Table.game('r', 'n', "", 8, 0, 0, 0), 0, 0, 4, "2 1 /1 4 0 0");
    }

    private static void followingByOneSeed() {
        due.by("and the hole that follows, stores left out, has seeds");
        moved("none follow", Table.game('p', 'n', "", 1, 0, 0, 1), 0, 0, 1, "0 1 /0 1 0 0");
        moved("one follows", Table.game('p', 'n', "", 1, 0, 1, 0), 0, 0, 2, "0 1 /0 1 0 0");
        moved("the origin follows, empty", Table.game('p', 'n', "", 3, 0, 0, 0), 0, 0, 1, "0 1 /1 1 0 0");
        moved("the origin follows with one", Table.game('p', 'n', "", 7, 0, 0, 0), 0, 0, 4, "2 0 /1 4 0 0");
    }

    private static void oppositeByOneSeed() {
        due.by("if that hole is an own one and has 1 seed, and its opposite has some: both");
        moved("the opposite has none", Table.game('s', 'o', "", 1, 0, 0, 2), 0, 0, 1, "0 1 /0 2 0 0");
        moved("the opposite has one", Table.game('s', 'o', "", 1, 0, 1, 2), 0, 2, 1, "0 0 /0 2 2 0");
        moved("the own one has two", Table.game('s', 'o', "", 1, 1, 1, 2), 0, 0, 1, "0 2 /1 2 0 0");
        moved("it is the other's", Table.game('s', 'o', "", 2, 1, 0, 2), 0, 0, 1, "0 2 /1 2 0 0");
        moved("the origin has one again", Table.game('s', 'o', "", 4, 0, 0, 1), 0, 3, 1, "0 1 /1 0 3 0");
    }

    private static void twosAndThrees() {
        due.by("if it is one of the other player and has 2 or 3");
        for (int seeds = 0; seeds <= 9; seeds++) {
            boolean caught = seeds == 1 || seeds == 2;
            due.is("it has " + (seeds + 1), Table.game('s', 'c', "", 1, 1, seeds, 9).move(1), caught ? seeds + 1 : 0);
        }
    }

    private static void twosAndThreesOneByOne() {
        due.by("and those of the holes ahead of it, one by one, up to the first one that is not so");
        for (int seeds = 0; seeds <= 9; seeds++) {
            boolean caught = seeds == 1 || seeds == 2;
            due.is("it has 2, the one ahead " + (seeds + 1), Table.game('s', 'c', "", 1, 2, seeds, 1).move(1),
                    caught ? seeds + 3 : 2);
            due.is("it has 4, the one ahead " + (seeds + 1), Table.game('s', 'c', "", 1, 2, seeds, 3).move(1), 0);
        }
        moved("the first one is not so", Table.game('s', 'c', "", 1, 0, 3, 1, 3, 1), 2, 2, 1, "1 0 0 /2 4 0 2 0");
        moved("the first one has one", Table.game('s', 'c', "", 1, 0, 3, 1, 0, 1), 2, 2, 1, "1 0 0 /2 1 0 2 0");
        moved("those behind it stay", Table.game('s', 'c', "", 1, 0, 2, 1, 1, 2), 2, 4, 1, "1 0 0 /0 0 2 4 0");
    }

    private static void evens() {
        due.by("if it is one of the other player and has an even number: these");
        for (int seeds = 0; seeds <= 9; seeds++) {
            due.is("it has " + (seeds + 1), Table.game('s', 'e', "", 1, 1, seeds, 9).move(1),
                    seeds % 2 == 1 ? seeds + 1 : 0);
        }
        moved("none ahead of it", Table.game('s', 'e', "", 1, 2, 1, 1), 1, 2, 1, "1 0 /2 0 2 0");
    }

    private static void noCaptures() {
        due.by("'n': none");
        for (int seeds = 0; seeds <= 3; seeds++) {
            due.is("the other's hole by 'n'", Table.game('s', 'n', "", 1, 1, seeds, 9).move(1), 0);
            due.is("an own hole by 'n'", Table.game('s', 'n', "", 1, 0, seeds, 9).move(0), 0);
            due.is("an own hole by 'c'", Table.game('s', 'c', "", 1, seeds, 1, 9).move(0), 0);
            due.is("an own hole by 'e'", Table.game('s', 'e', "", 1, seeds, 1, 9).move(0), 0);
        }
    }

    private static void noCaptureBehindAStore() {
        due.by("Captures, as the last lap ends in a hole");
        for (char capture : "noce".toCharArray()) {
            moved("into the store", Table.game('s', capture, "s", 1, 1, 1, 2), 1, 1, 1, "1 0 /1 2 1 0");
        }
        Sowingcourt two = Table.game('s', 'c', "sx", 1, 0, 0, 2, 1, 1, 1, 1, 1, 2);
        due.is("one in the store", two.move(4), 1);
        moved("two in the store", two, 3, 1, 1, "1 0 0 0 1 /1 1 1 1 2 2 0");
        moved("past the store", Table.game('s', 'e', "s", 1, 2, 1, 2), 1, 3, 1, "1 0 /0 2 3 0");
        moved("past the store into one of 2", Table.game('s', 'c', "s", 1, 2, 1, 2), 1, 3, 1, "1 0 /0 2 3 0");
    }

    private static void grandSlamByOneSeed() {
        due.by("By no grand slam, if nothing would be left in the other player's holes, nothing is captured");
        moved("nothing left, by 'e'", Table.game('s', 'e', "g", 1, 1, 1, 0), 1, 0, 1, "1 0 /2 0 0 0");
        moved("one left, by 'e'", Table.game('s', 'e', "g", 1, 1, 1, 1), 1, 2, 1, "1 0 /0 1 2 0");
        moved("nothing left, by 'o'", Table.game('s', 'o', "g", 1, 0, 3, 0), 0, 0, 1, "0 1 /3 0 0 0");
        moved("one left, by 'o'", Table.game('s', 'o', "g", 1, 0, 3, 1), 0, 4, 1, "0 0 /0 1 4 0");
        moved("nothing left, by 'c'", Table.game('s', 'c', "g", 1, 2, 1, 1), 1, 0, 1, "1 0 /2 2 0 0");
        moved("nothing left, no rule", Table.game('s', 'c', "", 1, 2, 1, 1), 1, 4, 1, "0 0 /0 0 5 0");
        Sowingcourt other = Table.game('s', 'e', "g", 1, 1, 0, 1);
        moved("ahead of player 1", other, 1, 0, 1, "1 0 /1 1 0 0");
        moved("nothing left by player 1", other, 3, 0, 1, "2 0 /1 0 0 0");
        Sowingcourt without = Table.game('s', 'e', "", 1, 1, 0, 1);
        without.move(1);
        moved("nothing left by player 1, no rule", without, 3, 2, 1, "0 0 /0 0 0 3");
    }

    private static void grandSlamOfSeveral() {
        due.by("by what is captured, nothing is captured");
        moved("all three", Table.game('s', 'c', "g", 1, 0, 3, 1, 1, 1), 2, 0, 1, "1 0 0 /2 2 2 0 0");
        moved("two of three", Table.game('s', 'c', "g", 1, 0, 3, 3, 1, 1), 2, 4, 1, "1 0 0 /4 0 0 4 0");
    }

    private static void feedingByOneSeed() {
        due.by("by feeding, the other player has no seeds ahead of it, and would have none behind it");
        Sowingcourt x = Table.game('s', 'n', "f", 1, 1, 0, 0);
        due.is("none ahead, none behind", x.barred(0), 'f');
        due.is("none ahead, one behind", x.barred(1), '-');
        due.is("one ahead", Table.game('s', 'n', "f", 1, 1, 0, 1).barred(0), '-');
        due.is("no feeding", Table.game('s', 'n', "", 1, 1, 0, 0).barred(0), '-');
        Sowingcourt other = Table.game('s', 'n', "f", 0, 1, 0, 1);
        other.move(1);
        due.is("none behind, of player 1", other.barred(2), 'f');
        due.is("one behind, of player 1", other.barred(3), '-');
        due.is("an own store feeds nobody", Table.game('s', 'n', "fs", 0, 1, 0, 0).barred(1), 'f');
    }

    private static void feedingBehindCaptures() {
        due.by("and would have none behind it");
        due.is("all it is given is captured", Table.game('s', 'c', "fo", 0, 8, 0, 0).barred(1), 'f');
        due.is("that is a grand slam", Table.game('s', 'c', "fog", 0, 8, 0, 0).barred(1), '-');
        due.is("nothing is captured", Table.game('s', 'n', "fo", 0, 8, 0, 0).barred(1), '-');
        Sowingcourt had = Table.game('s', 'e', "f", 1, 1, 1, 0);
        due.is("it had one ahead, and that is captured", had.barred(1), '-');
        moved("that ends the game", had, 1, 2, 1, "0 0 /0 0 3 0");
    }

    private static void firstReasonOfAll() {
        due.by("A hole is barred by the first of these");
        Sowingcourt x = Table.game('s', 'n', "f", 0, 1, 0, 0);
        due.is("empty ahead of feeding", x.barred(0), 'e');
        due.is("feeds", x.barred(1), '-');
        due.is("not an own one ahead of empty", x.barred(2), 'o');
        x.move(1);
        due.is("isOver(), as player 1 feeds nobody", x.isOver(), true);
    }

    private static void extraTurnsByTheLastSeed() {
        due.by("If the last seed of a move comes into the own store, and there are extra turns");
        int[] turns = {1, 1, 1, 0, 1};
        String[] rules = {"", "x", "s", "sx", "sx"};
        for (int i = 0; i < 5; i++) {
            Sowingcourt x = Table.game('s', 'n', rules[i], 1, i == 4 ? 2 : 1, 1, 1);
            x.move(1);
            due.is("turn() by the things " + rules[i] + " of number " + i, x.turn(), turns[i]);
        }
        Sowingcourt captured = Table.game('s', 'o', "sx", 1, 0, 3, 2);
        captured.move(0);
        due.is("turn() as only captures come into it", captured.turn(), 1);
        Sowingcourt other = Table.game('s', 'n', "sx", 1, 0, 1, 1);
        other.move(0);
        other.move(3);
        due.is("turn() of player 1 once more", other.turn(), 1);
    }

    private static void gainsLeaveTheEndOut() {
        due.by("how many seeds came into the store of the mover, seeds of the end left out");
        Sowingcourt x = Table.game('s', 'n', "s", 3, 1, 0, 0);
        due.is("move(1)", x.move(1), 1);
        due.is("store(0) with the end", x.store(0), 4);
        Sowingcourt none = Table.game('s', 'n', "", 1, 0, 0, 0);
        due.is("move(0)", none.move(0), 0);
        due.is("store(0) with the end alone", none.store(0), 1);
    }

    private static void valuesWithTheSeedsOfAnEnd() {
        due.by("behind so many moves, or as it is over before that, with the seeds of the end");
        Sowingcourt x = Table.game('s', 'n', "", 0, 1, 0, 0);
        int[] values = {0, 0, -1, -1, -1, -1};
        for (int depth = 0; depth <= 5; depth++) {
            due.is("value(" + depth + ") of a forced line", x.value(depth), values[depth]);
        }
        Sowingcourt own = Table.game('s', 'n', "", 9, 0, 0, 0, 0, 0, 0, 0, 0, 0);
        due.is("value(1) as player 1 has some", own.value(1), 0);
        Sowingcourt once = Table.game('s', 'n', "", 3, 0, 0, 0, 0, 0, 0, 0, 0, 0);
        due.is("value(1) as that ends it", once.value(1), 3);
        due.is("value(0) ahead of that", once.value(0), 0);
        Sowingcourt barred = Table.game('s', 'n', "", 0, 0, 9, 9);
        due.is("value(5), all barred now", barred.value(5), 0);
    }

    private static void justOneHole() {
        due.by("It is a puzzle for a depth if just one hole comes to the value");
        due.is("two come to it", Table.game('s', 'n', "", 1, 1, 1, 1).isPuzzle(1), false);
        due.is("one of two", Table.game('s', 'n', "s", 1, 1, 1, 1).isPuzzle(1), true);
        due.is("the only one", Table.game('s', 'n', "", 0, 1, 1, 1).isPuzzle(1), true);
        due.is("none", Table.game('s', 'n', "", 0, 0, 1, 1).isPuzzle(1), false);
        due.is("two of three", Table.game('s', 'o', "", 1, 0, 3, 1, 1, 1).isPuzzle(1), true);
        due.is("all of five", Table.game('s', 'n', "", 1, 1, 1, 1, 1, 1, 1, 1, 1, 1).isPuzzle(1), false);
    }

    private static void firstOfTheBest() {
        due.by("The best move is the first hole that comes to it");
        for (int h = 2; h <= 5; h++) {
            Sowingcourt x = Table.court(h, 1, 's', 'n', "");
            x.start(0);
            due.is("best(1) of " + h, x.best(1), 0);
            x.move(0);
            due.is("best(1) of " + h + " of player 1", x.best(1), h);
            Sowingcourt last = Table.court(h, 1, 's', 'n', "s");
            last.start(0);
            due.is("best(1) of " + h + " with a store", last.best(1), h - 1);
            last.move(h - 1);
            due.is("best(1) of " + h + " with a store, of player 1", last.best(1), 2 * h - 1);
        }
        Sowingcourt none = Table.game('s', 'n', "", 0, 0, 1, 1);
        due.fails("best(1) of none", () -> none.best(1), NoSuchElementException.class);
    }

    private static void blundersByOne() {
        due.by("A blunder is by how much the value by a move is less than that; 0 for none");
        Sowingcourt x = Table.game('s', 'n', "s", 1, 1, 1, 1);
        due.is("blunder(1, 1)", x.blunder(1, 1), 0);
        due.is("blunder(0, 1)", x.blunder(0, 1), 1);
        Sowingcourt same = Table.game('s', 'n', "", 1, 1, 1, 1);
        due.is("blunder(0, 1) of two that are alike", same.blunder(0, 1), 0);
        due.is("blunder(1, 1) of two that are alike", same.blunder(1, 1), 0);
        Sowingcourt all = Table.game('s', 'o', "", 1, 0, 1, 0, 9, 0);
        due.is("blunder(0, 1) takes all", all.blunder(0, 1), 0);
        due.is("blunder(2, 1) leaves all", all.blunder(2, 1), 11);
    }

    /** By hand: behind its moves the stores of the first kind have 1:0, 1:1, 1:1, 1:2 and 2:2. */
    private static void leadsThatChange() {
        due.by("the lead changes as a player has more who had less as they were unlike the last time");
        Sowingcourt x = Table.court(2, 1, 'p', 'n', "s");
        due.is("play(0, 'l')", x.play(0, 'l'), 5);
        due.is("play(0, 'c'), even is no lead", x.play(0, 'c'), 1);
        due.is("play(0, 'd')", x.play(0, 'd'), 0);
        Sowingcourt first = Table.court(2, 1, 's', 'o', "s");
        due.is("play(0, 'c'), the first lead is no change", first.play(0, 'c'), 0);
        due.is("play(0, 'd')", first.play(0, 'd'), 2);
    }

    /** No move brings a seed into a store, so that the seeds of the end alone tell who leads. */
    private static void seedsOfAnEndInPlays() {
        due.by("The stores are looked at once behind each move, with the seeds of an end, if it ends by that");
        Sowingcourt x = Table.court(2, 1, 's', 'n', "");
        due.is("play(0, 'l')", x.play(0, 'l'), 4);
        due.is("play(0, 'd')", x.play(0, 'd'), -4);
        due.is("play(0, 'c') as nobody led ahead of it", x.play(0, 'c'), 0);
        Sowingcourt turned = Table.court(2, 5, 's', 'c', "sofx");
        due.is("play(0, 'l') of 2:0, 4:0 and 5:0", turned.play(0, 'l'), 3);
        due.is("play(0, 'd') as player 1 has 15 at the end", turned.play(0, 'd'), -10);
        due.is("play(0, 'c') as the end alone changes it", turned.play(0, 'c'), 1);
    }

    /** By hand: by both first moves no seed comes into a store, but hole 1 would end it with three for player 0. */
    private static void seedsOfAnEndInChoices() {
        due.by("the first hole by which the store becomes greatest in this move, seeds of an end left out");
        Sowingcourt x = Table.court(2, 2, 'p', 'c', "");
        due.is("play(0, 'l')", x.play(0, 'l'), 5);
        due.is("play(0, 'd')", x.play(0, 'd'), 8);
        due.is("play(0, 'c')", x.play(0, 'c'), 0);
        x.start(0);
        due.is("best(1) counts them", x.best(1), 0);
        x.move(1);
        due.is("hole 1 ends it", Table.shown(x), "0 0 /0 0 3 5");
    }
}
