/** Sets up games for the tests, and tells positions as texts. */
final class Table {
    private Table() { }

    /** A court with one kind, for which the things of the letters hold. */
    static Sowingcourt court(int holes, int seeds, char lap, char capture, String rules) {
        Sowingcourt x = new Sowingcourt();
        x.kind(holes, seeds, lap, capture);
        for (char what : rules.toCharArray()) {
            x.rule(0, what, true);
        }
        return x;
    }

    /** A game of two holes each that begins with the given seeds. */
    static Sowingcourt game(char lap, char capture, String rules, int... given) {
        Sowingcourt x = court(given.length / 2, 1, lap, capture, rules);
        x.start(0);
        for (int hole = 0; hole < given.length; hole++) {
            x.give(hole, given[hole]);
        }
        return x;
    }

    /** The position as it is written, sign by sign. */
    static String shown(Sowingcourt x) {
        StringBuilder text = new StringBuilder();
        for (int place = 0; place < x.line(); place++) {
            text.append(x.sign(place));
        }
        return text.toString();
    }

    /** A number for what tests tell apart: all that the game answers without a change. */
    static String state(Sowingcourt x) {
        return shown(x) + " turn " + Due.answer(x::turn) + " moves " + Due.answer(x::moves) + " over " + x.isOver()
                + " length " + x.length() + " times " + x.times() + " laps " + Due.answer(x::laps);
    }
}
