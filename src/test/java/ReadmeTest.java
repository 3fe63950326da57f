import java.io.IOException;
import java.lang.reflect.Method;
import java.lang.reflect.Modifier;
import java.nio.file.Files;
import java.nio.file.Path;
import java.util.ArrayList;
import java.util.List;
import java.util.function.Supplier;
import java.util.regex.Matcher;
import java.util.regex.Pattern;
import java.util.stream.Stream;

/** What README.md shows of the class: the same calls stand here, in the same order, with the same answers. */
public final class ReadmeTest {
    private static final Due due = new Due("ReadmeTest");
    private static final String FIRST = "Sowingcourt court = new Sowingcourt();";
    private static final Pattern CALL = Pattern.compile("(court\\..+?\\)); +// (throws \\w+|'.'|[^ :,]+)([:,] .+|,)?");
    private static final Pattern ROW = Pattern.compile("\\| (\\w+Test) \\| .+ \\|");
    private static final List<String> shown = new ArrayList<>();
    private static final Sowingcourt court = new Sowingcourt();

    public static void main(String[] args) throws IOException {
        kinds();
        game();
        endOfTheGame();
        writingAndNumbers();
        handicapsAndLookingAhead();
        playsAndRecords();
        List<String> lines = Files.readAllLines(Path.of("README.md"));
        showsTheSame(lines);
        showsEachMethod();
        namesEachTest(lines);
        due.end();
    }

    private static void kinds() {
        shows("court.kind(2, 2, 's', 'o')", () -> court.kind(2, 2, 's', 'o'), "0");
        shows("court.rule(0, 's', true)", () -> court.rule(0, 's', true), "false");
        shows("court.rule(0, 'x', true)", () -> court.rule(0, 'x', true), "false");
        shows("court.holds(0, 'x')", () -> court.holds(0, 'x'), "true");
        shows("court.copy(0)", () -> court.copy(0), "1");
        shows("court.rule(1, 'x', false)", () -> court.rule(1, 'x', false), "true");
        shows("court.rule(1, 'f', true)", () -> court.rule(1, 'f', true), "false");
        shows("court.unlike(0, 1)", () -> court.unlike(0, 1), "2");
        shows("court.kind(4, 3, 'r', 'o')", () -> court.kind(4, 3, 'r', 'o'), "2");
        shows("court.rule(2, 's', true)", () -> court.rule(2, 's', true), "false");
        shows("court.parent(2)", () -> court.parent(2), "0");
        due.is("kind 2 is as near to kind 0", court.unlike(2, 0), 4);
        due.is("as to kind 1", court.unlike(2, 1), 4);
        shows("court.meanUnlike()", () -> court.meanUnlike(), "3.0");
    }

    private static void game() {
        shows("court.start(0)", () -> court.start(0), "8");
        shows("court.moves()", () -> court.moves(), "3");
        shows("court.move(0)", () -> court.move(0), "1");
        shows("court.turn()", () -> court.turn(), "0");
        shows("court.barred(0)", () -> court.barred(0), "'e'");
        shows("court.barred(2)", () -> court.barred(2), "'o'");
        shows("court.freeShare()", () -> court.freeShare(), "0.5");
        String before = Table.state(court);
        shows("court.move(0)", () -> court.move(0), "throws UnsupportedOperationException");
        due.is("nothing is changed", Table.state(court), before);
        shows("court.move(1)", () -> court.move(1), "1");
        shows("court.laps()", () -> court.laps(), "1");
        shows("court.undo()", () -> court.undo(), "1");
        shows("court.length()", () -> court.length(), "1");
        shows("court.seeds(1)", () -> court.seeds(1), "3");
        shows("court.store(0)", () -> court.store(0), "1");
        shows("court.winner()", () -> court.winner(), "throws NoSuchElementException");
    }

    private static void endOfTheGame() {
        shows("court.move(1)", () -> court.move(1), "1");
        shows("court.move(2)", () -> court.move(2), "1");
        shows("court.move(0)", () -> court.move(0), "0");
        shows("court.move(3)", () -> court.move(3), "4");
        shows("court.times()", () -> court.times(), "1");
        shows("court.move(0)", () -> court.move(0), "0");
        shows("court.isOver()", () -> court.isOver(), "true");
        shows("court.store(0)", () -> court.store(0), "3");
        shows("court.store(1)", () -> court.store(1), "5");
        shows("court.winner()", () -> court.winner(), "1");
        shows("court.turn()", () -> court.turn(), "throws IllegalStateException");
        shows("court.undo()", () -> court.undo(), "0");
        shows("court.isOver()", () -> court.isOver(), "false");
    }

    private static void writingAndNumbers() {
        shows("court.line()", () -> court.line(), "12");
        due.is("the position, written", Table.shown(court), "1 0 /0 0 2 5");
        shows("court.sign(0)", () -> court.sign(0), "'1'");
        shows("court.sign(4)", () -> court.sign(4), "'/'");
        shows("court.many(3, 2)", () -> court.many(3, 2), "6");
        StringBuilder rows = new StringBuilder();
        for (int number = 0; number < 6; number++) {
            rows.append(number == 0 ? "" : " ").append(court.inRow(3, 2, number, 0))
                    .append(court.inRow(3, 2, number, 1)).append(court.inRow(3, 2, number, 2));
        }
        due.is("the rows", rows.toString(), "002 011 020 101 110 200");
        shows("court.inRow(3, 2, 3, 0)", () -> court.inRow(3, 2, 3, 0), "1");
        shows("court.inRow(3, 2, 3, 1)", () -> court.inRow(3, 2, 3, 1), "0");
        shows("court.number()", () -> court.number(), "3");
        shows("court.checksum()", () -> court.checksum(), "193475804540");
        shows("court.isSound()", () -> court.isSound(), "true");
    }

    private static void handicapsAndLookingAhead() {
        shows("court.start(2)", () -> court.start(2), "24");
        shows("court.give(7, 0)", () -> court.give(7, 0), "21");
        shows("court.give(0, 9)", () -> court.give(0, 9), "27");
        shows("court.value(0)", () -> court.value(0), "0");
        shows("court.value(2)", () -> court.value(2), "5");
        shows("court.best(2)", () -> court.best(2), "3");
        shows("court.blunder(1, 2)", () -> court.blunder(1, 2), "14");
        shows("court.isPuzzle(2)", () -> court.isPuzzle(2), "true");
        shows("court.best(1)", () -> court.best(1), "2");
        due.is("hole 3 comes to the value too", court.blunder(3, 1), 0);
        due.is("hole 0 does not", court.blunder(0, 1) > 0, true);
        due.is("nor does hole 1", court.blunder(1, 1) > 0, true);
        shows("court.isPuzzle(1)", () -> court.isPuzzle(1), "false");
        shows("court.move(2)", () -> court.move(2), "8");
        shows("court.laps()", () -> court.laps(), "7");
        shows("court.give(0, 1)", () -> court.give(0, 1), "throws UnsupportedOperationException");
    }

    private static void playsAndRecords() {
        shows("court.play(0, 'l')", () -> court.play(0, 'l'), "6");
        shows("court.play(0, 'c')", () -> court.play(0, 'c'), "1");
        shows("court.play(0, 'd')", () -> court.play(0, 'd'), "-2");
        shows("court.type(0)", () -> court.type(0), "1");
        shows("court.type(1)", () -> court.type(1), "2");
        shows("court.type(2)", () -> court.type(2), "3");
        shows("court.explains(0)", () -> court.explains(0), "3");
        shows("court.explains(1)", () -> court.explains(1), "1");
        shows("court.explainer()", () -> court.explainer(), "0");
        shows("court.wipe()", () -> court.wipe(), "3");
        shows("court.explainer()", () -> court.explainer(), "throws NoSuchElementException");
    }

    private static void shows(String call, Supplier<Object> body, String want) {
        Object got = Due.answer(body);
        String text = got instanceof Character ? "'" + got + "'" : got.toString().replace("throws.", "throws ");
        due.is(call, text, want);
        shown.add(call + " // " + want);
    }

    private static void showsTheSame(List<String> lines) {
        List<String> read = new ArrayList<>();
        boolean isCode = false;
        for (String line : lines) {
            if (line.startsWith("```")) {
                isCode = line.equals("```java");
            } else if (isCode && !line.equals(FIRST)) {
                Matcher call = CALL.matcher(line);
                due.is("README.md shows a call: " + line, call.matches(), true);
                read.add(call.matches() ? call.group(1) + " // " + call.group(2) : line);
            }
        }
        due.is("a new object in README.md", lines.contains(FIRST), true);
        due.is("the calls of README.md", String.join("\n", read), String.join("\n", shown));
    }

    private static void showsEachMethod() {
        for (Method method : Sowingcourt.class.getDeclaredMethods()) {
            if (Modifier.isPublic(method.getModifiers())) {
                String start = "court." + method.getName() + "(";
                due.is("README.md shows " + start, shown.stream().anyMatch(call -> call.startsWith(start)), true);
            }
        }
    }

    private static void namesEachTest(List<String> lines) throws IOException {
        List<String> named = lines.stream().map(ROW::matcher).filter(Matcher::matches).map(row -> row.group(1))
                .sorted().toList();
        try (Stream<Path> files = Files.list(Path.of("src/test/java"))) {
            List<String> there = files.map(file -> file.getFileName().toString())
                    .filter(file -> file.endsWith("Test.java")).map(file -> file.replace(".java", ""))
                    .sorted().toList();
            due.is("the tests that README.md names", named, there);
        }
    }
}
