import java.util.NoSuchElementException;

/** Promises 29 to 33: kinds that play by themselves, and records that they explain. */
public final class PlaysTest {
    private static final Due due = new Due("PlaysTest");

    public static void main(String[] args) {
        playsByHand();
        playsOfMostKinds();
        playRefuses();
        typedAndWiped();
        explainsFromTheStart();
        explainsUpToAnEnd();
        explainerIsTheBest();
        othersStay();
        due.end();
    }

    private static void played(Sowingcourt x, int moves, int changes, int more) {
        due.is("play(0, 'l')", x.play(0, 'l'), moves);
        due.is("play(0, 'c')", x.play(0, 'c'), changes);
        due.is("play(0, 'd')", x.play(0, 'd'), more);
    }

    /** Each one is worked out on paper. */
    private static void playsByHand() {
        played(Table.court(2, 1, 's', 'n', ""), 4, 0, -4);
        played(Table.court(2, 1, 's', 'o', "s"), 3, 0, 2);
        played(Table.court(2, 1, 'p', 'n', "s"), 5, 1, 0);
        played(Table.court(2, 4, 's', 'c', "so"), 7, 4, 2);
        played(Table.court(3, 2, 'r', 'c', ""), 67, 0, 6);
        played(Table.court(3, 3, 'r', 'n', ""), 200, 0, 0);
    }

    private static void playsOfMostKinds() {
        for (int i = 0; i < 7680; i += 11) {
            int holes = 2 + i % 4;
            int seeds = 1 + i / 4 % 5;
            char lap = "srp".charAt(i / 20 % 3);
            char capture = "noce".charAt(i / 60 % 4);
            String rules = "";
            for (int bit = 0; bit < 5; bit++) {
                rules += (i / 240 >> bit & 1) == 1 ? "sogfx".charAt(bit) : "";
            }
            Sowingcourt x = Table.court(holes, seeds, lap, capture, rules);
            Oracle oracle = new Oracle();
            oracle.kind(holes, seeds, lap, capture);
            for (char what : rules.toCharArray()) {
                oracle.rule(0, what, true);
            }
            for (char what : "lcd".toCharArray()) {
                due.is("play of " + holes + seeds + lap + capture + rules + " " + what,
                        x.play(0, what), oracle.play(0, what));
            }
        }
    }

    private static void playRefuses() {
        Sowingcourt x = Table.court(2, 1, 's', 'n', "");
        for (int kind : new int[] {-1, 1, 6, Integer.MAX_VALUE, Integer.MIN_VALUE}) {
            due.fails("play(" + kind + ", 'l')", () -> x.play(kind, 'l'), IndexOutOfBoundsException.class);
            due.fails("play(" + kind + ", 'q')", () -> x.play(kind, 'q'), IndexOutOfBoundsException.class);
            due.fails("explains(" + kind + ")", () -> x.explains(kind), IndexOutOfBoundsException.class);
        }
        for (char letter = 0; letter < 300; letter++) {
            char what = letter;
            boolean fits = "lcd".indexOf(what) >= 0;
            due.is("play(0, " + (int) what + ")", Due.answer(() -> x.play(0, what)) instanceof Integer, fits);
        }
        due.fails("play(0, 'q')", () -> x.play(0, 'q'), IllegalArgumentException.class);
    }

    private static void typedAndWiped() {
        Sowingcourt x = new Sowingcourt();
        for (int hole : new int[] {-1, 10, Integer.MAX_VALUE, Integer.MIN_VALUE}) {
            due.fails("type(" + hole + ")", () -> x.type(hole), IllegalArgumentException.class);
        }
        for (int i = 1; i <= 60; i++) {
            due.is("type(" + i % 10 + ")", x.type(i % 10), i);
        }
        due.fails("type of a 61st", () -> x.type(0), IllegalStateException.class);
        due.fails("type of a 61st, out of range", () -> x.type(10), IllegalArgumentException.class);
        due.is("wipe()", x.wipe(), 60);
        due.is("wipe() again", x.wipe(), 0);
        due.is("type behind wipe()", x.type(9), 1);
        due.is("wipe() of one", x.wipe(), 1);
    }

    private static void type(Sowingcourt x, int... holes) {
        x.wipe();
        for (int hole : holes) {
            x.type(hole);
        }
    }

    private static void explainsFromTheStart() {
        Sowingcourt x = Table.court(2, 1, 's', 'n', "");
        due.is("explains nothing typed", x.explains(0), 0);
        type(x, 0, 2, 1);
        due.is("explains all", x.explains(0), 3);
        type(x, 2, 0, 1);
        due.is("explains none that begins with the other's", x.explains(0), 0);
        type(x, 0, 2, 0, 2);
        due.is("explains up to an empty one", x.explains(0), 2);
        type(x, 0, 4, 0, 2);
        due.is("explains up to a hole that is not there", x.explains(0), 1);
        type(x, 0, 9, 0, 2);
        due.is("explains up to a hole far out", x.explains(0), 1);
        x.kind(5, 1, 's', 'n');
        type(x, 4, 9);
        due.is("explains by a wider kind", x.explains(1), 2);
        due.is("explains by a narrow kind", x.explains(0), 0);
        x.rule(0, 's', true);
        x.rule(0, 'x', true);
        type(x, 1, 0);
        due.is("explains by extra turns", x.explains(0), 2);
        x.rule(0, 'x', false);
        due.is("explains without extra turns", x.explains(0), 1);
    }

    private static void explainsUpToAnEnd() {
        Sowingcourt x = Table.court(2, 1, 's', 'n', "");
        type(x, 0, 2, 1, 2, 0, 1, 2, 3);
        due.is("explains none behind the end", x.explains(0), 4);
        x.kind(2, 1, 's', 'o');
        x.rule(1, 's', true);
        type(x, 1, 3, 0, 2, 0, 1, 3);
        due.is("explains none behind a capture of all", x.explains(1), 3);
        Sowingcourt round = Table.court(2, 1, 's', 'n', "");
        int[] moves = {0, 2, 1, 3, 0, 2, 1, 3};
        for (int i = 0; i < 60; i++) {
            round.type(moves[i % 8]);
        }
        Oracle oracle = new Oracle();
        oracle.kind(2, 1, 's', 'n');
        for (int i = 0; i < 60; i++) {
            oracle.type(moves[i % 8]);
        }
        due.is("explains a row that goes round", round.explains(0), oracle.explains(0));
    }

    private static void explainerIsTheBest() {
        Sowingcourt none = new Sowingcourt();
        due.fails("explainer() without kinds and record", none::explainer, NoSuchElementException.class);
        none.type(0);
        due.fails("explainer() without kinds", none::explainer, NoSuchElementException.class);
        Sowingcourt x = Table.court(2, 2, 's', 'n', "");
        due.fails("explainer() without a record", x::explainer, NoSuchElementException.class);
        type(x, 9);
        due.is("explainer() of what nobody explains", x.explainer(), 0);
        x.kind(5, 1, 'p', 'n');
        x.kind(5, 2, 'p', 'n');
        x.kind(5, 2, 's', 'n');
        x.kind(5, 2, 's', 'n');
        type(x, 4, 9);
        due.is("explains(1)", x.explains(1), x.explains(2));
        type(x, 0);
        due.is("explainer() as all explain", x.explainer(), 0);
        type(x, 4);
        due.is("explains(0) of a hole that it has not", x.explains(0), 0);
        due.is("explainer(): the nearest to kind 0, the lowest", x.explainer(), 3);
        type(x, 4, 9);
        due.is("explains(3) of two", x.explains(3), 2);
        due.is("explainer() of two", x.explainer(), 3);
        x.rule(3, 'f', true);
        due.is("explainer() as kind 3 was changed", x.explainer(), 4);
        x.rule(4, 'x', true);
        due.is("explains(2) of two", x.explains(2), 2);
        due.is("explainer() of three that are as near", x.explainer(), 2);
        type(x, 0, 5);
        due.is("explains(0) of one", x.explains(0), 1);
        due.is("explainer() explains more than kind 0", x.explainer(), 2);
    }

    private static void othersStay() {
        Sowingcourt x = Table.game('r', 'o', "s", 3, 2, 4, 2);
        x.move(0);
        String state = Table.state(x);
        x.type(1);
        x.play(0, 'l');
        x.explains(0);
        x.explainer();
        due.is("the game stays", Table.state(x), state);
        due.is("the record stays", x.wipe(), 1);
        due.is("isSound()", x.isSound(), true);
    }
}
