import java.util.Random;
import java.util.function.Supplier;

/** Runs of calls drawn from fixed seeds: the program must answer each one as the oracle does. */
public final class RandomRunsTest {
    private static final int CALLS = 400;
    private static final Due due = new Due("RandomRunsTest");

    private final Random random;
    private final String run;
    private final Sowingcourt x = new Sowingcourt();
    private final Oracle oracle = new Oracle();
    /** Whether this run asks for values, which the oracle finds slowly. */
    private final boolean looksAhead;

    private RandomRunsTest(long seed) {
        random = new Random(seed);
        run = "run " + seed + " ";
        looksAhead = seed % 3 == 0;
    }

    public static void main(String[] args) {
        int runs = args.length > 1 ? Integer.parseInt(args[1]) : 150;
        for (int seed = 1; seed <= runs; seed++) {
            new RandomRunsTest(seed).runAll();
        }
        due.end();
    }

    private void runAll() {
        for (int i = random.nextInt(4); i < 3; i++) {
            makeKind();
        }
        for (int i = 0; i < CALLS; i++) {
            int pick = random.nextInt(100);
            if (pick < 50) {
                askGame();
            } else if (pick < 55) {
                askKinds();
            } else if (pick < 58) {
                makeKind();
            } else if (pick < 62) {
                askRows();
            } else if (pick < 70) {
                askWritten();
            } else if (pick < 76) {
                askRecord();
            } else if (pick < 80) {
                askDepth();
            } else {
                makeMove();
            }
        }
    }

    private void same(String call, Supplier<Object> of, Supplier<Object> by) {
        due.is(run + call, Due.answer(of), Due.answer(by));
    }

    private int anyKind() {
        return random.nextInt(20) == 0 ? random.nextInt(20) - 10 : random.nextInt(4);
    }

    private int anyHole() {
        return random.nextInt(12) - 1;
    }

    private char any(String letters) {
        return letters.charAt(random.nextInt(letters.length()));
    }

    private void makeKind() {
        int holes = random.nextInt(10) == 0 ? random.nextInt(9) - 1 : 2 + random.nextInt(4);
        int seeds = random.nextInt(10) == 0 ? random.nextInt(9) - 1 : 1 + random.nextInt(5);
        char lap = random.nextInt(20) == 0 ? any("SqtoRP\u0173") : any("srp");
        char capture = random.nextInt(20) == 0 ? any("NOCEspr\u016f") : any("noce");
        same("kind(" + holes + ", " + seeds + ", " + lap + ", " + capture + ")",
                () -> x.kind(holes, seeds, lap, capture), () -> oracle.kind(holes, seeds, lap, capture));
        for (int i = 0; i < 3; i++) {
            setRule();
        }
    }

    private void setRule() {
        int kind = anyKind();
        char what = random.nextInt(20) == 0 ? any("SOGFXnce\u0173") : any("sogfx");
        boolean holds = random.nextInt(3) != 0;
        same("rule(" + kind + ", " + what + ", " + holds + ")",
                () -> x.rule(kind, what, holds), () -> oracle.rule(kind, what, holds));
    }

    private void askKinds() {
        int one = anyKind();
        int other = anyKind();
        char what = random.nextInt(10) == 0 ? any("SOGFXnce-") : any("sogfx");
        char told = random.nextInt(10) == 0 ? any("LCDsa") : any("lcd");
        switch (random.nextInt(7)) {
            case 0 -> same("holds(" + one + ", " + what + ")",
                    () -> x.holds(one, what), () -> oracle.holds(one, what));
            case 1 -> same("copy(" + one + ")", () -> x.copy(one), () -> oracle.copy(one));
            case 2 -> same("unlike(" + one + ", " + other + ")",
                    () -> x.unlike(one, other), () -> oracle.unlike(one, other));
            case 3 -> same("parent(" + one + ")", () -> x.parent(one), () -> oracle.parent(one));
            case 4 -> same("meanUnlike()", x::meanUnlike, oracle::meanUnlike);
            case 5 -> same("play(" + one + ", " + told + ")",
                    () -> x.play(one, told), () -> oracle.play(one, told));
            default -> setRule();
        }
    }

    private void askGame() {
        int hole = anyHole();
        int kind = anyKind();
        int seeds = random.nextInt(12) - 1;
        int player = random.nextInt(5) == 0 ? random.nextInt(5) - 2 : random.nextInt(2);
        switch (random.nextInt(16)) {
            case 0 -> begin(kind);
            case 1, 2 -> same("give(" + hole + ", " + seeds + ")",
                    () -> x.give(hole, seeds), () -> oracle.give(hole, seeds));
            case 3 -> same("move(" + hole + ")", () -> x.move(hole), () -> oracle.move(hole));
            case 4 -> same("barred(" + hole + ")", () -> x.barred(hole), () -> oracle.barred(hole));
            case 5 -> same("moves()", x::moves, oracle::moves);
            case 6 -> same("undo()", x::undo, oracle::undo);
            case 7 -> same("seeds(" + hole + ")", () -> x.seeds(hole), () -> oracle.seeds(hole));
            case 8 -> same("store(" + player + ")", () -> x.store(player), () -> oracle.store(player));
            case 9 -> same("turn()", x::turn, oracle::turn);
            case 10 -> same("isOver()", x::isOver, oracle::isOver);
            case 11 -> same("winner()", x::winner, oracle::winner);
            case 12 -> same("laps()", x::laps, oracle::laps);
            case 13 -> same("length()", x::length, oracle::length);
            case 14 -> same("times()", x::times, oracle::times);
            default -> same("freeShare()", x::freeShare, oracle::freeShare);
        }
    }

    private void begin(int kind) {
        same("start(" + kind + ")", () -> x.start(kind), () -> oracle.start(kind));
        for (int i = random.nextInt(12); i > 2; i--) {
            int hole = anyHole();
            int seeds = random.nextInt(3) == 0 ? random.nextInt(10) : random.nextInt(3);
            same("give(" + hole + ", " + seeds + ")", () -> x.give(hole, seeds), () -> oracle.give(hole, seeds));
        }
    }

    /** A hole that is not barred, if there is one, so that games come to their ends. */
    private void makeMove() {
        if (!(Due.answer(oracle::moves) instanceof Integer free) || free == 0) {
            return;
        }
        int hole = anyHole();
        while (hole < 0 || (free >> hole & 1) == 0) {
            hole = anyHole();
        }
        int taken = hole;
        same("move(" + taken + ")", () -> x.move(taken), () -> oracle.move(taken));
        same("checksum()", x::checksum, oracle::checksum);
        same("isOver()", x::isOver, oracle::isOver);
    }

    private void askRows() {
        int holes = random.nextInt(12);
        int seeds = random.nextInt(3) == 0 ? random.nextInt(54) - 1 : random.nextInt(9);
        int hole = random.nextInt(12) - 1;
        long most = holes >= 1 && holes <= 10 && seeds >= 0 && seeds <= 50 ? oracle.many(holes, seeds) : 9;
        long number = random.nextInt(8) == 0 ? most : Math.floorMod(random.nextLong(), most + 1) - 1;
        switch (random.nextInt(3)) {
            case 0 -> same("many(" + holes + ", " + seeds + ")",
                    () -> x.many(holes, seeds), () -> oracle.many(holes, seeds));
            case 1 -> same("number()", x::number, oracle::number);
            default -> same("inRow(" + holes + ", " + seeds + ", " + number + ", " + hole + ")",
                    () -> x.inRow(holes, seeds, number, hole), () -> oracle.inRow(holes, seeds, number, hole));
        }
    }

    private void askWritten() {
        int place = random.nextInt(40) - 1;
        switch (random.nextInt(4)) {
            case 0 -> same("line()", x::line, oracle::line);
            case 1 -> same("sign(" + place + ")", () -> x.sign(place), () -> oracle.sign(place));
            case 2 -> same("checksum()", x::checksum, oracle::checksum);
            default -> same("isSound()", x::isSound, oracle::isSound);
        }
    }

    private void askRecord() {
        int kind = anyKind();
        int hole = anyHole();
        switch (random.nextInt(8)) {
            case 0 -> same("explains(" + kind + ")", () -> x.explains(kind), () -> oracle.explains(kind));
            case 1 -> same("explainer()", x::explainer, oracle::explainer);
            case 2 -> {
                if (random.nextInt(4) == 0) {
                    same("wipe()", x::wipe, oracle::wipe);
                }
            }
            default -> same("type(" + hole + ")", () -> x.type(hole), () -> oracle.type(hole));
        }
    }

    private void askDepth() {
        if (!looksAhead) {
            return;
        }
        int depth = random.nextInt(10) == 0 ? random.nextInt(9) - 1 : random.nextInt(5);
        int hole = anyHole();
        switch (random.nextInt(4)) {
            case 0 -> same("value(" + depth + ")", () -> x.value(depth), () -> oracle.value(depth));
            case 1 -> same("best(" + depth + ")", () -> x.best(depth), () -> oracle.best(depth));
            case 2 -> same("blunder(" + hole + ", " + depth + ")",
                    () -> x.blunder(hole, depth), () -> oracle.blunder(hole, depth));
            default -> same("isPuzzle(" + depth + ")", () -> x.isPuzzle(depth), () -> oracle.isPuzzle(depth));
        }
    }
}
