import java.util.function.Supplier;

/** All that an object answers, first what changes nothing, then what does; no more calls than an object is used for. */
final class Answers {
    private final Sowingcourt x;
    private final StringBuilder told = new StringBuilder();

    private Answers(Sowingcourt x) {
        this.x = x;
    }

    static String of(Sowingcourt x) {
        Answers answers = new Answers(x);
        answers.kinds();
        answers.game();
        answers.depths();
        answers.changes();
        return answers.told.toString();
    }

    private void tell(Supplier<Object> body) {
        told.append(Due.answer(body)).append(' ');
    }

    private void kinds() {
        for (int i = 0; i <= 6; i++) {
            int kind = i;
            for (char what : "sogfx".toCharArray()) {
                tell(() -> x.holds(kind, what));
            }
            for (char what : "lcd".toCharArray()) {
                tell(() -> x.play(kind, what));
            }
            tell(() -> x.parent(kind));
            tell(() -> x.explains(kind));
            tell(() -> x.unlike(kind, 0));
            tell(() -> x.unlike(1, kind));
        }
        tell(x::meanUnlike);
        tell(x::explainer);
    }

    private void game() {
        for (int i = -1; i <= 10; i++) {
            int hole = i;
            tell(() -> x.seeds(hole));
            tell(() -> x.barred(hole));
        }
        tell(() -> x.store(0));
        tell(() -> x.store(1));
        tell(x::turn);
        tell(x::moves);
        tell(x::isOver);
        tell(x::winner);
        tell(x::laps);
        tell(x::length);
        tell(x::times);
        tell(x::number);
        tell(x::line);
        tell(() -> x.sign(4));
        tell(x::checksum);
        tell(x::freeShare);
        tell(x::isSound);
    }

    private void depths() {
        for (int i = 0; i <= 2; i++) {
            int depth = i;
            tell(() -> x.value(depth));
            tell(() -> x.best(depth));
            tell(() -> x.isPuzzle(depth));
            tell(() -> x.blunder(1, depth));
        }
    }

    private void changes() {
        tell(() -> x.type(3));
        tell(() -> x.give(1, 4));
        for (int i = 0; i < 4; i++) {
            int hole = i;
            tell(() -> x.move(hole));
        }
        game();
        for (int i = 0; i < 4; i++) {
            tell(x::undo);
        }
        game();
        tell(x::wipe);
        tell(() -> x.copy(0));
        tell(() -> x.kind(4, 3, 'p', 'c'));
        for (int i = 0; i <= 6; i++) {
            int kind = i;
            tell(() -> x.start(kind));
        }
        game();
    }
}
