import java.util.ArrayList;
import java.util.List;
import java.util.function.Function;

/**
 * Each exception where it is due, the one that is documented first where several apply, and nothing changed by the
 * call that threw: its object answers all that follows as a twin does that never had the call.
 */
public final class ThrowsTest {
    private static final Due due = new Due("ThrowsTest");
    /** The states in the order of the letters of a row. */
    private static final String[] STATES = {
        "new", "six kinds and a full record", "begun", "moved", "taken back", "over", "all barred"};

    /** A call, and by a letter for each state what it throws there, '-' for nothing. */
    private record Row(String call, Function<Sowingcourt, Object> body, String letters) { }

    private final List<Row> rows = new ArrayList<>();

    public static void main(String[] args) {
        ThrowsTest test = new ThrowsTest();
        test.kinds();
        test.beginnings();
        test.movesAndWhatBarsThem();
        test.boards();
        test.ends();
        test.rowsOfHoles();
        test.depths();
        test.records();
        test.lookAtAll();
        due.end();
    }

    private static Sowingcourt in(int state) {
        Sowingcourt x = new Sowingcourt();
        if (state == 0) {
            return x;
        }
        x.kind(2, 1, 's', 'n');
        if (state == 1) {
            fill(x);
            return x;
        }
        x.start(0);
        if (state == 3 || state == 4) {
            x.move(0);
        }
        if (state == 4) {
            x.undo();
        }
        if (state == 5 || state == 6) {
            give(x, 0, state == 5 ? 1 : 0, state == 5 ? 0 : 1, state == 5 ? 0 : 1);
        }
        if (state == 5) {
            x.move(1);
            x.move(2);
        }
        return x;
    }

    private static void fill(Sowingcourt x) {
        x.kind(3, 2, 'r', 'o');
        x.copy(1);
        x.rule(2, 's', true);
        x.kind(5, 5, 'p', 'c');
        x.copy(3);
        x.kind(4, 1, 's', 'e');
        for (int i = 0; i < 60; i++) {
            x.type(i * 3 % 10);
        }
    }

    private static void give(Sowingcourt x, int... seeds) {
        for (int hole = 0; hole < seeds.length; hole++) {
            x.give(hole, seeds[hole]);
        }
    }

    private void row(String call, String letters, Function<Sowingcourt, Object> body) {
        rows.add(new Row(call, body, letters));
    }

    private void kinds() {
        row("kind(2, 1, s, n)", "-S-----", x -> x.kind(2, 1, 's', 'n'));
        row("kind(1, 1, s, n)", "AAAAAAA", x -> x.kind(1, 1, 's', 'n'));
        row("kind(6, 1, s, n)", "AAAAAAA", x -> x.kind(6, 1, 's', 'n'));
        row("kind(2, 0, s, n)", "AAAAAAA", x -> x.kind(2, 0, 's', 'n'));
        row("kind(2, 6, s, n)", "AAAAAAA", x -> x.kind(2, 6, 's', 'n'));
        row("kind(2, 1, n, n)", "AAAAAAA", x -> x.kind(2, 1, 'n', 'n'));
        row("kind(2, 1, s, s)", "AAAAAAA", x -> x.kind(2, 1, 's', 's'));
        row("rule(0, s, true)", "I------", x -> x.rule(0, 's', true));
        row("rule(0, q, true)", "IAAAAAA", x -> x.rule(0, 'q', true));
        row("rule(1, s, true)", "I-IIIII", x -> x.rule(1, 's', true));
        row("rule(1, q, true)", "IAIIIII", x -> x.rule(1, 'q', true));
        row("rule(6, s, true)", "IIIIIII", x -> x.rule(6, 's', true));
        row("rule(-1, q, true)", "IIIIIII", x -> x.rule(-1, 'q', true));
        row("holds(0, x)", "I------", x -> x.holds(0, 'x'));
        row("holds(0, q)", "IAAAAAA", x -> x.holds(0, 'q'));
        row("holds(1, q)", "IAIIIII", x -> x.holds(1, 'q'));
        row("holds(6, q)", "IIIIIII", x -> x.holds(6, 'q'));
        row("holds(-1, x)", "IIIIIII", x -> x.holds(-1, 'x'));
        row("copy(0)", "IS-----", x -> x.copy(0));
        row("copy(1)", "ISIIIII", x -> x.copy(1));
        row("copy(6)", "IIIIIII", x -> x.copy(6));
        row("copy(-1)", "IIIIIII", x -> x.copy(-1));
        row("unlike(0, 0)", "I------", x -> x.unlike(0, 0));
        row("unlike(0, 1)", "I-IIIII", x -> x.unlike(0, 1));
        row("unlike(1, 0)", "I-IIIII", x -> x.unlike(1, 0));
        row("unlike(0, 6)", "IIIIIII", x -> x.unlike(0, 6));
        row("unlike(-1, 0)", "IIIIIII", x -> x.unlike(-1, 0));
        row("parent(0)", "INNNNNN", x -> x.parent(0));
        row("parent(1)", "I-IIIII", x -> x.parent(1));
        row("parent(6)", "IIIIIII", x -> x.parent(6));
        row("parent(-1)", "IIIIIII", x -> x.parent(-1));
        row("meanUnlike()", "R-RRRRR", Sowingcourt::meanUnlike);
    }

    private void beginnings() {
        row("start(0)", "I------", x -> x.start(0));
        row("start(1)", "I-IIIII", x -> x.start(1));
        row("start(6)", "IIIIIII", x -> x.start(6));
        row("start(-1)", "IIIIIII", x -> x.start(-1));
        row("give(0, 9)", "SS-UUS-", x -> x.give(0, 9));
        row("give(3, 0)", "SS-UUS-", x -> x.give(3, 0));
        row("give(0, 10)", "SSAAASA", x -> x.give(0, 10));
        row("give(0, -1)", "SSAAASA", x -> x.give(0, -1));
        row("give(4, 1)", "SSIIISI", x -> x.give(4, 1));
        row("give(-1, 1)", "SSIIISI", x -> x.give(-1, 1));
        row("give(4, 10)", "SSIIISI", x -> x.give(4, 10));
        row("give(-1, -1)", "SSIIISI", x -> x.give(-1, -1));
    }

    private void movesAndWhatBarsThem() {
        row("move(0)", "SS-U-SU", x -> x.move(0));
        row("move(2)", "SSU-USU", x -> x.move(2));
        row("move(4)", "SSIIISI", x -> x.move(4));
        row("move(-1)", "SSIIISI", x -> x.move(-1));
        row("barred(0)", "SS---S-", x -> x.barred(0));
        row("barred(3)", "SS---S-", x -> x.barred(3));
        row("barred(4)", "SSIIISI", x -> x.barred(4));
        row("barred(-1)", "SSIIISI", x -> x.barred(-1));
        row("moves()", "SS---S-", Sowingcourt::moves);
        row("freeShare()", "SS---S-", Sowingcourt::freeShare);
        row("undo()", "UUU-U-U", Sowingcourt::undo);
    }

    private void boards() {
        row("seeds(0)", "SS-----", x -> x.seeds(0));
        row("seeds(3)", "SS-----", x -> x.seeds(3));
        row("seeds(4)", "SSIIIII", x -> x.seeds(4));
        row("seeds(-1)", "SSIIIII", x -> x.seeds(-1));
        row("store(0)", "SS-----", x -> x.store(0));
        row("store(1)", "SS-----", x -> x.store(1));
        row("store(2)", "SSIIIII", x -> x.store(2));
        row("store(-1)", "SSIIIII", x -> x.store(-1));
        row("line()", "SS-----", Sowingcourt::line);
        row("sign(0)", "SS-----", x -> x.sign(0));
        row("sign(11)", "SS-----", x -> x.sign(11));
        row("sign(12)", "SSNNNNN", x -> x.sign(12));
        row("sign(-1)", "SSNNNNN", x -> x.sign(-1));
        row("checksum()", "-------", Sowingcourt::checksum);
        row("isSound()", "-------", Sowingcourt::isSound);
    }

    private void ends() {
        row("turn()", "SS---S-", Sowingcourt::turn);
        row("isOver()", "SS-----", Sowingcourt::isOver);
        row("winner()", "SSNNN-N", Sowingcourt::winner);
        row("laps()", "SSN-N-N", Sowingcourt::laps);
        row("length()", "SS-----", Sowingcourt::length);
        row("times()", "SS-----", Sowingcourt::times);
    }

    private void rowsOfHoles() {
        row("number()", "SS-----", Sowingcourt::number);
        row("many(1, 0)", "-------", x -> x.many(1, 0));
        row("many(10, 50)", "-------", x -> x.many(10, 50));
        row("many(0, 0)", "AAAAAAA", x -> x.many(0, 0));
        row("many(11, 0)", "AAAAAAA", x -> x.many(11, 0));
        row("many(1, -1)", "AAAAAAA", x -> x.many(1, -1));
        row("many(1, 51)", "AAAAAAA", x -> x.many(1, 51));
        row("inRow(4, 4, 34, 3)", "-------", x -> x.inRow(4, 4, 34, 3));
        row("inRow(4, 4, 34, 4)", "IIIIIII", x -> x.inRow(4, 4, 34, 4));
        row("inRow(4, 4, 34, -1)", "IIIIIII", x -> x.inRow(4, 4, 34, -1));
        row("inRow(4, 4, 35, 3)", "AAAAAAA", x -> x.inRow(4, 4, 35, 3));
        row("inRow(4, 4, 35, 4)", "AAAAAAA", x -> x.inRow(4, 4, 35, 4));
        row("inRow(4, 4, -1, -1)", "AAAAAAA", x -> x.inRow(4, 4, -1, -1));
        row("inRow(0, 4, 0, 0)", "AAAAAAA", x -> x.inRow(0, 4, 0, 0));
        row("inRow(11, 4, 0, 11)", "AAAAAAA", x -> x.inRow(11, 4, 0, 11));
        row("inRow(4, 51, 0, 4)", "AAAAAAA", x -> x.inRow(4, 51, 0, 4));
        row("inRow(4, -1, 0, 0)", "AAAAAAA", x -> x.inRow(4, -1, 0, 0));
    }

    private void depths() {
        row("value(0)", "SS---S-", x -> x.value(0));
        row("value(5)", "SS---S-", x -> x.value(5));
        row("value(6)", "SSAAASA", x -> x.value(6));
        row("value(-1)", "SSAAASA", x -> x.value(-1));
        row("best(1)", "SS---SN", x -> x.best(1));
        row("best(5)", "SS---SN", x -> x.best(5));
        row("best(0)", "SSAAASA", x -> x.best(0));
        row("best(6)", "SSAAASA", x -> x.best(6));
        row("blunder(0, 1)", "SS-U-SU", x -> x.blunder(0, 1));
        row("blunder(2, 5)", "SSU-USU", x -> x.blunder(2, 5));
        row("blunder(0, 0)", "SSAAASA", x -> x.blunder(0, 0));
        row("blunder(2, 6)", "SSAAASA", x -> x.blunder(2, 6));
        row("blunder(4, 1)", "SSIIISI", x -> x.blunder(4, 1));
        row("blunder(-1, 1)", "SSIIISI", x -> x.blunder(-1, 1));
        row("blunder(4, 0)", "SSIIISI", x -> x.blunder(4, 0));
        row("blunder(-1, 6)", "SSIIISI", x -> x.blunder(-1, 6));
        row("isPuzzle(1)", "SS---S-", x -> x.isPuzzle(1));
        row("isPuzzle(5)", "SS---S-", x -> x.isPuzzle(5));
        row("isPuzzle(0)", "SSAAASA", x -> x.isPuzzle(0));
        row("isPuzzle(6)", "SSAAASA", x -> x.isPuzzle(6));
    }

    private void records() {
        row("play(0, l)", "I------", x -> x.play(0, 'l'));
        row("play(0, q)", "IAAAAAA", x -> x.play(0, 'q'));
        row("play(1, q)", "IAIIIII", x -> x.play(1, 'q'));
        row("play(6, l)", "IIIIIII", x -> x.play(6, 'l'));
        row("play(-1, q)", "IIIIIII", x -> x.play(-1, 'q'));
        row("type(0)", "-S-----", x -> x.type(0));
        row("type(9)", "-S-----", x -> x.type(9));
        row("type(10)", "AAAAAAA", x -> x.type(10));
        row("type(-1)", "AAAAAAA", x -> x.type(-1));
        row("wipe()", "-------", Sowingcourt::wipe);
        row("explains(0)", "I------", x -> x.explains(0));
        row("explains(1)", "I-IIIII", x -> x.explains(1));
        row("explains(6)", "IIIIIII", x -> x.explains(6));
        row("explains(-1)", "IIIIIII", x -> x.explains(-1));
        row("explainer()", "N-NNNNN", Sowingcourt::explainer);
    }

    private void lookAtAll() {
        for (int state = 0; state < STATES.length; state++) {
            String untouched = Answers.of(in(state));
            due.is("twins answer alike", Answers.of(in(state)), untouched);
            for (Row row : rows) {
                lookAt(row, state, untouched);
            }
        }
    }

    private static void lookAt(Row row, int state, String untouched) {
        String call = STATES[state] + ": " + row.call;
        Sowingcourt x = in(state);
        Object answer = Due.answer(() -> row.body.apply(x));
        char letter = row.letters.charAt(state);
        if (letter == '-') {
            due.is(call + " answers", String.valueOf(answer).startsWith("throws."), false);
        } else {
            due.by("If several exceptions apply, the one that is documented first is thrown");
            due.is(call, answer, "throws." + named(letter));
        }
        if (letter != '-' || onlyAsks(row.call)) {
            due.by("A method that throws an exception changes nothing");
            due.is(call + ", then all answers", Answers.of(x), untouched);
        }
    }

    private static boolean onlyAsks(String call) {
        String name = call.substring(0, call.indexOf('('));
        return !List.of("kind", "rule", "copy", "start", "give", "move", "undo", "type", "wipe").contains(name);
    }

    private static String named(char letter) {
        return switch (letter) {
            case 'S' -> "IllegalStateException";
            case 'I' -> "IndexOutOfBoundsException";
            case 'A' -> "IllegalArgumentException";
            case 'U' -> "UnsupportedOperationException";
            case 'N' -> "NoSuchElementException";
            case 'R' -> "ArithmeticException";
            default -> "none by this letter";
        };
    }
}
