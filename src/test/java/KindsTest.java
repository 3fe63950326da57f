import java.util.NoSuchElementException;

/** Promises 1 to 7 and 38: kinds, how they are changed, and in what they are unlike. */
public final class KindsTest {
    private static final Due due = new Due("KindsTest");

    public static void main(String[] args) {
        aNewObject();
        kindTakesWhatIsInRange();
        kindRefusesFirstByArgument();
        rulesHoldOrNot();
        rulesRefuse();
        copiesAreTheirOwn();
        unlikeCountsNineThings();
        parentIsTheNearestLowest();
        meanIsOverKindsWithParents();
        due.end();
    }

    private static void aNewObject() {
        Sowingcourt x = new Sowingcourt();
        due.is("checksum() at first", x.checksum(), 7L);
        due.is("isSound() at first", x.isSound(), true);
        due.is("wipe() at first", x.wipe(), 0);
        due.fails("isOver() at first", x::isOver, IllegalStateException.class);
        due.fails("holds(0, 's') at first", () -> x.holds(0, 's'), IndexOutOfBoundsException.class);
        due.fails("explainer() at first", x::explainer, NoSuchElementException.class);
        due.is("kind in a second object", new Sowingcourt().kind(2, 1, 's', 'n'), 0);
    }

    private static void kindTakesWhatIsInRange() {
        for (int holes = 0; holes <= 7; holes++) {
            for (int seeds = -1; seeds <= 7; seeds++) {
                Sowingcourt x = new Sowingcourt();
                int h = holes;
                int s = seeds;
                boolean fits = h >= 2 && h <= 5 && s >= 1 && s <= 5;
                due.call("kind(" + h + ", " + s + ")", () -> x.kind(h, s, 's', 'n'),
                        fits ? 0 : "throws.IllegalArgumentException");
                due.call("seeds of that kind", () -> x.start(0), fits ? 2 * h * s : "throws.IndexOutOfBoundsException");
            }
        }
        for (char letter = 0; letter < 300; letter++) {
            char it = letter;
            due.call("lap " + (int) it, () -> new Sowingcourt().kind(2, 1, it, 'n'),
                    "srp".indexOf(it) >= 0 ? 0 : "throws.IllegalArgumentException");
            due.call("capture " + (int) it, () -> new Sowingcourt().kind(2, 1, 's', it),
                    "noce".indexOf(it) >= 0 ? 0 : "throws.IllegalArgumentException");
        }
    }

    private static void kindRefusesFirstByArgument() {
        Sowingcourt x = new Sowingcourt();
        for (int i = 0; i < 6; i++) {
            due.is("kind number", x.kind(2 + i % 4, 1 + i % 5, 's', 'n'), i);
        }
        due.fails("a seventh kind", () -> x.kind(2, 1, 's', 'n'), IllegalStateException.class);
        due.fails("a seventh kind that is wrong", () -> x.kind(2, 6, 's', 'n'), IllegalArgumentException.class);
        due.fails("a seventh kind, no such lap", () -> x.kind(2, 1, 'n', 'n'), IllegalArgumentException.class);
        due.fails("a seventh kind, no such capture", () -> x.kind(2, 1, 's', 's'), IllegalArgumentException.class);
        due.fails("a seventh kind by a copy", () -> x.copy(5), IllegalStateException.class);
        due.fails("a seventh kind by a copy of none", () -> x.copy(6), IndexOutOfBoundsException.class);
        due.is("still six kinds", Due.answer(() -> x.start(6)), "throws.IndexOutOfBoundsException");
        due.is("the last kind is as it was", x.start(5), 2 * 3 * 1);
    }

    private static void rulesHoldOrNot() {
        for (char what : "sogfx".toCharArray()) {
            Sowingcourt x = Table.court(2, 1, 's', 'n', "");
            x.kind(2, 1, 's', 'n');
            for (char other : "sogfx".toCharArray()) {
                due.is(other + " at first", x.holds(0, other), false);
            }
            due.is("rule from false to false", x.rule(0, what, false), false);
            due.is("rule from false to true", x.rule(0, what, true), false);
            due.is("rule from true to true", x.rule(0, what, true), true);
            for (char other : "sogfx".toCharArray()) {
                due.is(other + " behind rule " + what, x.holds(0, other), other == what);
                due.is(other + " of another kind", x.holds(1, other), false);
            }
            due.is("rule from true to false", x.rule(0, what, false), true);
            due.is("it holds no more", x.holds(0, what), false);
        }
    }

    private static void rulesRefuse() {
        Sowingcourt x = Table.court(2, 1, 's', 'n', "");
        for (int kind : new int[] {-1, 1, 5, 6, Integer.MAX_VALUE, Integer.MIN_VALUE}) {
            due.fails("rule of kind " + kind, () -> x.rule(kind, 's', true), IndexOutOfBoundsException.class);
            due.fails("rule of kind " + kind + ", no such thing", () -> x.rule(kind, 'q', true),
                    IndexOutOfBoundsException.class);
            due.fails("holds of kind " + kind, () -> x.holds(kind, 's'), IndexOutOfBoundsException.class);
            due.fails("holds of kind " + kind + ", no such thing", () -> x.holds(kind, 'q'),
                    IndexOutOfBoundsException.class);
            due.fails("copy of kind " + kind, () -> x.copy(kind), IndexOutOfBoundsException.class);
            due.fails("unlike of kind " + kind, () -> x.unlike(kind, 0), IndexOutOfBoundsException.class);
            due.fails("unlike to kind " + kind, () -> x.unlike(0, kind), IndexOutOfBoundsException.class);
            due.fails("parent of kind " + kind, () -> x.parent(kind), IndexOutOfBoundsException.class);
        }
        for (char letter = 0; letter < 300; letter++) {
            char what = letter;
            Object wanted = "sogfx".indexOf(what) >= 0 ? false : "throws.IllegalArgumentException";
            due.call("holds " + (int) what, () -> x.holds(0, what), wanted);
            due.call("rule " + (int) what, () -> x.rule(0, what, false), wanted);
        }
    }

    private static void copiesAreTheirOwn() {
        Sowingcourt x = Table.court(3, 4, 'p', 'e', "ofx");
        due.is("copy(0)", x.copy(0), 1);
        due.is("a copy is unlike in nothing", x.unlike(0, 1), 0);
        due.is("a copy begins likewise", x.start(1), 24);
        for (char what : "sogfx".toCharArray()) {
            due.is("a copy has " + what, x.holds(1, what), "ofx".indexOf(what) >= 0);
        }
        x.rule(1, 'o', false);
        due.is("the first one keeps its own", x.holds(0, 'o'), true);
        x.rule(0, 'g', true);
        due.is("the copy keeps its own", x.holds(1, 'g'), false);
        due.is("kind behind a copy", x.kind(2, 1, 's', 'n'), 2);
    }

    private static void unlikeCountsNineThings() {
        Sowingcourt x = Table.court(2, 1, 's', 'n', "");
        x.kind(3, 1, 's', 'n');
        x.kind(2, 2, 's', 'n');
        x.kind(2, 1, 'r', 'n');
        x.kind(2, 1, 's', 'o');
        x.kind(5, 5, 'p', 'e');
        for (int other = 1; other <= 4; other++) {
            due.is("unlike(0, " + other + ")", x.unlike(0, other), 1);
            due.is("unlike(" + other + ", 0)", x.unlike(other, 0), 1);
            due.is("unlike to itself", x.unlike(other, other), 0);
        }
        due.is("unlike(1, 2)", x.unlike(1, 2), 2);
        int count = 4;
        for (char what : "sogfx".toCharArray()) {
            due.is("unlike(0, 5)", x.unlike(0, 5), count);
            x.rule(5, what, true);
            count++;
        }
        due.is("unlike in all nine", x.unlike(5, 0), 9);
        x.rule(0, 'g', true);
        due.is("unlike in all but one", x.unlike(5, 0), 8);
    }

    private static void parentIsTheNearestLowest() {
        Sowingcourt x = Table.court(2, 1, 's', 'n', "");
        due.fails("parent(0)", () -> x.parent(0), NoSuchElementException.class);
        x.kind(2, 1, 'r', 'o');
        x.kind(2, 1, 'r', 'n');
        due.is("parent(1) is the only one", x.parent(1), 0);
        due.is("parent(2) of two that are as near", x.parent(2), 0);
        x.copy(1);
        due.is("parent(3) is the nearest", x.parent(3), 1);
        x.copy(3);
        due.is("parent(4) is the lowest of the nearest", x.parent(4), 1);
        x.rule(1, 'x', true);
        due.is("parent(4) as kind 1 was changed", x.parent(4), 3);
        due.is("parent(1) has a lower number, though others are nearer", x.parent(1), 0);
    }

    private static void meanIsOverKindsWithParents() {
        Sowingcourt none = new Sowingcourt();
        due.fails("meanUnlike() without kinds", none::meanUnlike, ArithmeticException.class);
        Sowingcourt x = Table.court(2, 1, 's', 'n', "");
        due.fails("meanUnlike() of one kind", x::meanUnlike, ArithmeticException.class);
        x.kind(3, 2, 's', 'n');
        due.is("meanUnlike() of two", x.meanUnlike(), 2.0);
        x.copy(1);
        due.is("meanUnlike() of three", x.meanUnlike(), 1.0);
        x.rule(2, 'f', true);
        due.is("meanUnlike() 3 by 2", x.meanUnlike(), 1.5);
        x.copy(2);
        due.is("meanUnlike() 3 by 3", x.meanUnlike(), 1.0);
        x.rule(3, 'x', true);
        due.is("meanUnlike() 4 by 3", x.meanUnlike(), 4.0 / 3.0);
    }
}
