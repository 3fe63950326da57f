import java.util.NoSuchElementException;

/** Promises 34 to 37: the position as it is written, the checksum, and the share of free holes. */
public final class WrittenTest {
    private static final Due due = new Due("WrittenTest");

    public static void main(String[] args) {
        withoutAGame();
        linesAndSigns();
        linesOfLongNumbers();
        checksums();
        freeShares();
        due.end();
    }

    private static void withoutAGame() {
        Sowingcourt x = Table.court(2, 1, 's', 'n', "");
        due.fails("line()", x::line, IllegalStateException.class);
        due.fails("sign(0)", () -> x.sign(0), IllegalStateException.class);
        due.fails("sign(-1)", () -> x.sign(-1), IllegalStateException.class);
        due.fails("freeShare()", x::freeShare, IllegalStateException.class);
        due.is("checksum()", x.checksum(), 7L);
    }

    private static void linesAndSigns() {
        Sowingcourt x = Table.game('s', 'n', "", 1, 2, 3, 4);
        String wanted = "1 2 /3 4 0 0";
        due.is("line()", x.line(), wanted.length());
        for (int place = 0; place < wanted.length(); place++) {
            due.is("sign(" + place + ")", x.sign(place), wanted.charAt(place));
        }
        for (int place : new int[] {-1, 12, 13, Integer.MAX_VALUE, Integer.MIN_VALUE}) {
            due.fails("sign(" + place + ")", () -> x.sign(place), NoSuchElementException.class);
        }
        Sowingcourt wide = Table.court(5, 5, 's', 'n', "");
        wide.start(0);
        due.is("five holes", Table.shown(wide), "5 5 5 5 5 /5 5 5 5 5 0 0");
        due.is("line() of five holes", wide.line(), 24);
    }

    private static void linesOfLongNumbers() {
        Sowingcourt x = Table.game('s', 'n', "", 0, 9, 9, 9);
        x.move(1);
        due.is("shown", Table.shown(x), "2 2 /12 11 0 0");
        due.is("line()", x.line(), 14);
        Sowingcourt over = Table.game('p', 'n', "", 9, 9, 0, 0);
        due.is("shown", Table.shown(over), "9 9 /0 0 0 0");
        Sowingcourt all = Table.game('s', 'o', "", 1, 0, 9, 0);
        all.move(0);
        due.is("a store of two signs", Table.shown(all), "0 0 /0 0 10 0");
        due.is("line()", all.line(), 13);
        due.is("sign(9)", all.sign(9), '1');
        due.is("sign(12)", all.sign(12), '0');
        due.fails("sign(13)", () -> all.sign(13), NoSuchElementException.class);
    }

    private static long sum(int... parts) {
        long sum = 7;
        for (int part : parts) {
            sum = sum * 31 + part;
        }
        return sum;
    }

    private static void checksums() {
        Sowingcourt x = Table.game('s', 'n', "s", 2, 3, 4, 5);
        due.is("checksum() at first", x.checksum(), sum(2, 3, 4, 5, 0, 0, 0));
        x.move(0);
        due.is("checksum() behind a move", x.checksum(), sum(0, 4, 4, 5, 1, 0, 1));
        x.move(3);
        due.is("checksum() behind two", x.checksum(), sum(1, 5, 5, 1, 1, 1, 2));
        x.undo();
        due.is("checksum() behind undo()", x.checksum(), sum(0, 4, 4, 5, 1, 0, 1));
        Sowingcourt wide = Table.court(5, 4, 's', 'n', "");
        wide.start(0);
        due.is("checksum() of a wide one", wide.checksum(), sum(4, 4, 4, 4, 4, 4, 4, 4, 4, 4, 0, 0, 0));
        Sowingcourt over = Table.game('s', 'n', "", 0, 1, 0, 0);
        over.move(1);
        over.move(2);
        due.is("checksum() of an end", over.checksum(), sum(0, 0, 0, 0, 0, 1, 2));
    }

    private static void freeShares() {
        due.is("all of two", Table.game('s', 'n', "", 1, 1, 1, 1).freeShare(), 1.0f);
        due.is("one of two", Table.game('s', 'n', "", 0, 1, 1, 1).freeShare(), 0.5f);
        due.is("none of two", Table.game('s', 'n', "", 0, 0, 1, 1).freeShare(), 0.0f);
        due.is("one of three", Table.game('s', 'n', "", 0, 1, 0, 1, 1, 1).freeShare(), 1.0f / 3.0f);
        due.is("two of three", Table.game('s', 'n', "", 4, 1, 0, 1, 1, 1).freeShare(), 2.0f / 3.0f);
        due.is("by feeding", Table.game('s', 'n', "f", 1, 1, 0, 0).freeShare(), 0.5f);
        Sowingcourt x = Table.game('s', 'n', "", 1, 1, 1, 0, 0, 0, 0, 1, 1, 0);
        due.is("three of five", x.freeShare(), 3.0f / 5.0f);
        x.move(0);
        due.is("two of five of the other", x.freeShare(), 2.0f / 5.0f);
        Sowingcourt over = Table.game('s', 'n', "", 0, 1, 0, 0);
        over.move(1);
        over.move(2);
        due.fails("of a game that is over", over::freeShare, IllegalStateException.class);
    }
}
