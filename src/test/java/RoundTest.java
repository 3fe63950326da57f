/** The first and the last hole of each player, and the way round from the last hole to hole 0. */
public final class RoundTest {
    private static final Due due = new Due("RoundTest");

    public static void main(String[] args) {
        lastHoleBeforeHoleNought();
        lastOwnHoleBeforeTheOthers();
        onceRoundToTheOrigin();
        storeBehindTheLastOwnHole();
        noStoreOfTheOther();
        noStoresIfTheyAreNotSown();
        originLeftOut();
        originLeftOutAsOftenAsItComes();
        newOriginOfEachLap();
        followingHoleRound();
        followingHoleWithoutStores();
        opposites();
        capturesOfTheOtherOnly();
        due.end();
    }

    /** A game with seeds in two holes only, in which player 1 moves next behind a move of the first of them. */
    private static Sowingcourt lone(int h, char lap, char capture, String rules, int hole, int seeds, int other,
            int others) {
        int[] given = new int[2 * h];
        given[hole] = seeds;
        given[other] = others;
        return Table.game(lap, capture, rules, given);
    }

    private static void has(String call, Sowingcourt x, int... seeds) {
        StringBuilder wanted = new StringBuilder();
        StringBuilder found = new StringBuilder();
        for (int hole = 0; hole < seeds.length; hole++) {
            wanted.append(seeds[hole]).append(' ');
            found.append(x.seeds(hole)).append(' ');
        }
        due.is(call, found.toString(), wanted.toString());
    }

    private static void lastHoleBeforeHoleNought() {
        due.by("Holes follow one another by rising numbers, the last one before hole 0");
        for (int h = 2; h <= 5; h++) {
            for (int seeds = 1; seeds <= h; seeds++) {
                Sowingcourt x = lone(h, 's', 'n', "", h - 2, 1, 2 * h - 1, seeds);
                x.move(h - 2);
                due.is("move of the last hole", x.move(2 * h - 1), 0);
                due.is("the last hole of " + h, x.seeds(2 * h - 1), 0);
                for (int hole = 0; hole < seeds; hole++) {
                    due.is("hole " + hole + " of " + h, x.seeds(hole), hole == h - 1 ? 2 : 1);
                }
                due.is("hole h less 1", x.seeds(h - 1), seeds == h ? 2 : 1);
                due.is("hole h", x.seeds(h), 0);
            }
        }
    }

    private static void lastOwnHoleBeforeTheOthers() {
        due.by("the player 0 has the holes 0 to h less 1, the player 1 those from h");
        for (int h = 2; h <= 5; h++) {
            Sowingcourt x = lone(h, 's', 'n', "", h - 1, 2, 0, 0);
            due.is("move of the last own hole", x.move(h - 1), 0);
            due.is("hole h", x.seeds(h), 1);
            due.is("hole h plus 1", x.seeds(h + 1), 1);
            due.is("turn()", x.turn(), 1);
        }
    }

    private static void onceRoundToTheOrigin() {
        due.by("sows them, one to each place that follows");
        Sowingcourt less = Table.game('s', 'n', "", 3, 0, 0, 0);
        less.move(0);
        has("one less than round", less, 0, 1, 1, 1);
        Sowingcourt two = Table.game('s', 'n', "", 4, 0, 0, 0);
        two.move(0);
        has("once round of 4", two, 1, 1, 1, 1);
        Sowingcourt more = Table.game('s', 'n', "", 0, 5, 0, 0);
        more.move(1);
        has("one more than round", more, 1, 1, 2, 1);
        Sowingcourt twice = Table.game('s', 'n', "", 0, 9, 0, 0);
        twice.move(1);
        has("twice round and one more", twice, 2, 2, 3, 2);
        Sowingcourt three = Table.game('s', 'n', "", 0, 0, 6, 0, 0, 0);
        three.move(2);
        has("once round of 6", three, 1, 1, 1, 1, 1, 1);
        Sowingcourt four = Table.game('s', 'n', "", 0, 0, 0, 8, 0, 0, 0, 0);
        four.move(3);
        has("once round of 8", four, 1, 1, 1, 1, 1, 1, 1, 1);
        Sowingcourt five = Table.game('s', 'n', "", 9, 0, 0, 0, 0, 0, 0, 0, 0, 0);
        five.move(0);
        has("one less than round of 10", five, 0, 1, 1, 1, 1, 1, 1, 1, 1, 1);
    }

    private static void storeBehindTheLastOwnHole() {
        due.by("if own stores are sown, the own store of the mover behind the last own hole");
        for (int h = 2; h <= 5; h++) {
            Sowingcourt first = lone(h, 's', 'n', "s", h - 1, 2, h, 1);
            due.is("player 0 of " + h, first.move(h - 1), 1);
            due.is("store(0)", first.store(0), 1);
            due.is("hole h, behind the store", first.seeds(h), 2);
            Sowingcourt last = lone(h, 's', 'n', "s", 0, 1, 2 * h - 1, 2);
            last.move(0);
            due.is("player 1 of " + h, last.move(2 * h - 1), 1);
            due.is("store(1)", last.store(1), 1);
            due.is("store(0)", last.store(0), 0);
            due.is("hole 0, behind the store", last.seeds(0), 1);
        }
        Sowingcourt once = Table.game('s', 'n', "s", 0, 5, 0, 0);
        due.is("once round with a store", once.move(1), 1);
        has("once round with a store", once, 1, 1, 1, 1);
        Sowingcourt twice = Table.game('s', 'n', "s", 0, 6, 0, 0);
        due.is("once round, and the store again", twice.move(1), 2);
        has("once round, and the store again", twice, 1, 1, 1, 1);
    }

    private static void noStoreOfTheOther() {
        due.by("the own store of the mover");
        Sowingcourt x = Table.game('s', 'n', "s", 1, 9, 1, 9);
        due.is("player 0 past the last hole", x.move(1), 2);
        due.is("store(1)", x.store(1), 0);
        has("player 0 past the last hole", x, 3, 1, 3, 11);
        due.is("player 1 past the last own hole of 0", x.move(3), 3);
        due.is("store(0)", x.store(0), 2);
        has("player 1 past the last own hole of 0", x, 5, 3, 5, 2);
    }

    private static void noStoresIfTheyAreNotSown() {
        due.by("if own stores are sown");
        Sowingcourt x = Table.game('s', 'n', "x", 1, 9, 1, 9);
        due.is("player 0", x.move(1), 0);
        due.is("player 1", x.move(3), 0);
        due.is("store(0)", x.store(0), 0);
        due.is("store(1)", x.store(1), 0);
        due.is("turn()", x.turn(), 0);
    }

    private static void originLeftOut() {
        due.by("the origin is left out, as often as it comes, if it is skipped");
        Sowingcourt less = Table.game('s', 'n', "o", 3, 0, 0, 0);
        less.move(0);
        has("up to ahead of the origin", less, 0, 1, 1, 1);
        Sowingcourt more = Table.game('s', 'n', "o", 4, 0, 0, 0);
        more.move(0);
        has("past the origin", more, 0, 2, 1, 1);
        Sowingcourt stored = Table.game('s', 'n', "os", 0, 5, 0, 0);
        due.is("past the origin into the store", stored.move(1), 2);
        has("past the origin into the store", stored, 1, 0, 1, 1);
        Sowingcourt last = Table.game('s', 'n', "o", 1, 0, 0, 5);
        last.move(0);
        last.move(3);
        has("past the last hole as the origin", last, 2, 3, 1, 0);
    }

    private static void originLeftOutAsOftenAsItComes() {
        due.by("as often as it comes");
        Sowingcourt six = Table.game('s', 'n', "o", 6, 0, 0, 0);
        six.move(0);
        has("twice up to it", six, 0, 2, 2, 2);
        Sowingcourt seven = Table.game('s', 'n', "o", 7, 0, 0, 0);
        seven.move(0);
        has("twice past it", seven, 0, 3, 2, 2);
        Sowingcourt nine = Table.game('s', 'n', "o", 9, 0, 0, 0);
        nine.move(0);
        has("three times up to it", nine, 0, 3, 3, 3);
        Sowingcourt stored = Table.game('s', 'n', "os", 9, 0, 0, 0);
        due.is("twice past it, with a store", stored.move(0), 2);
        has("twice past it, with a store", stored, 0, 3, 2, 2);
    }

    private static void newOriginOfEachLap() {
        due.by("taken and sown from there, a lap with a new origin");
        Sowingcourt x = Table.game('r', 'n', "o", 1, 3, 0, 0);
        x.move(0);
        due.is("laps()", x.laps(), 4);
        has("0 to 1, four from 1 past it to 2, two from 2 to 0, two from 0 to 2", x, 0, 1, 1, 2);
        Sowingcourt y = Table.game('r', 'n', "", 1, 3, 0, 0);
        y.move(0);
        due.is("laps() without skipping", y.laps(), 2);
        has("0 to 1, four from 1 to itself", y, 1, 1, 1, 1);
    }

    private static void followingHoleRound() {
        due.by("the hole that follows, stores left out, has seeds: these are taken and sown from there likewise");
        for (int h = 2; h <= 5; h++) {
            int[] given = new int[2 * h];
            given[0] = 1;
            given[h - 1] = h;
            Sowingcourt x = Table.game('p', 'n', "", given);
            x.move(h - 1);
            due.is("last seed in the last hole, hole 0 has one", x.laps(), h == 2 ? 3 : 2);
            due.is("hole 0 of " + h, x.seeds(0), 0);
            due.is("hole 1 of " + h, x.seeds(1), 1);
            given[0] = 0;
            Sowingcourt y = Table.game('p', 'n', "", given);
            y.move(h - 1);
            due.is("last seed in the last hole, hole 0 is empty", y.laps(), 1);
            due.is("the last hole of " + h, y.seeds(2 * h - 1), 1);
        }
    }

    private static void followingHoleWithoutStores() {
        due.by("the hole that follows, stores left out");
        for (int h = 2; h <= 5; h++) {
            for (String rules : new String[] {"", "s"}) {
                Sowingcourt x = lone(h, 'p', 'n', rules, h - 2, 1, h, 1);
                due.is("no seed comes into the store", x.move(h - 2), 0);
                due.is("last seed ahead of hole h, that has one", x.laps(), 2);
                due.is("hole h", x.seeds(h), 0);
                due.is("hole h plus 1", x.seeds(h + 1), 1);
            }
            Sowingcourt x = lone(h, 'p', 'n', "s", h - 1, 1, h, 1);
            due.is("last seed in the store", x.move(h - 1), 1);
            due.is("that ends the move", x.laps(), 1);
            due.is("hole h", x.seeds(h), 1);
        }
    }

    private static void opposites() {
        due.by("The opposite of a hole is 2 h less 1 less its number");
        for (int h = 2; h <= 5; h++) {
            for (int hole = 1; hole < h; hole++) {
                for (int other = h; other < 2 * h; other++) {
                    Sowingcourt x = lone(h, 's', 'o', "", hole - 1, 1, other, 7);
                    boolean caught = other == 2 * h - 1 - hole;
                    due.is("hole " + hole + " by " + other + " of " + h, x.move(hole - 1), caught ? 8 : 0);
                }
            }
            int[] given = new int[2 * h];
            given[h - 1] = h + 1;
            given[2 * h - 1] = 3;
            Sowingcourt x = Table.game('s', 'o', "", given);
            due.is("hole 0 by the last one", x.move(h - 1), 5);
            due.is("the last hole", x.seeds(2 * h - 1), 0);
        }
        Sowingcourt x = Table.game('s', 'o', "", 1, 0, 4, 1, 0, 0);
        due.is("player 0 captures nothing", x.move(0), 0);
        due.is("player 1: hole 4 by hole 1", x.move(3), 2);
        has("player 1: hole 4 by hole 1", x, 0, 0, 4, 0, 0, 0);
    }

    private static void capturesOfTheOtherOnly() {
        due.by("as long as these are the other player's and have 2 or 3, up to the first one that is not so");
        for (int h = 2; h <= 5; h++) {
            int[] given = new int[2 * h];
            given[h - 2] = 2;
            given[h - 1] = 1;
            given[h] = 1;
            given[h + 1] = 4;
            Sowingcourt x = Table.game('s', 'c', "", given);
            due.is("hole h, hole h less 1 has 2 as well", x.move(h - 2), 2);
            due.is("hole h less 1 stays", x.seeds(h - 1), 2);
        }
        Sowingcourt narrow = Table.game('s', 'c', "", 1, 2, 1, 0);
        narrow.move(1);
        due.is("hole 0, not the last one that has 2 as well", narrow.move(2), 2);
        for (int h = 3; h <= 5; h++) {
            int[] given = new int[2 * h];
            given[0] = 1;
            given[1] = 1;
            given[2 * h - 2] = 2;
            given[2 * h - 1] = 1;
            Sowingcourt x = Table.game('s', 'c', "", given);
            x.move(1);
            due.is("hole 0, the last one has 2 as well", x.move(2 * h - 2), 2);
            due.is("the last one stays", x.seeds(2 * h - 1), 2);
            due.is("hole 0 is empty", x.seeds(0), 0);
        }
    }
}
