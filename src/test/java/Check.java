/** Compares answers with those that are due, and ends a test with exit code 1 when one was not. */
final class Check {
    /** A call of the face; what it answers is of no concern where an exception is due. */
    interface Call {
        void run();
    }

    private static int wrong = 0;

    private Check() {
    }

    static void due(String what, long got, long want) {
        if (got != want) {
            report(what + " answered " + got + ", due is " + want);
        }
    }

    static void due(String what, boolean got, boolean want) {
        if (got != want) {
            report(what + " answered " + got + ", due is " + want);
        }
    }

    static void due(String what, String got, String want) {
        if (!got.equals(want)) {
            report(what + " answered " + got + ", due is " + want);
        }
    }

    static void throwsState(String what, Call call) {
        due(what + " throws", thrownBy(call), "IllegalStateException");
    }

    static void throwsArgument(String what, Call call) {
        due(what + " throws", thrownBy(call), "IllegalArgumentException");
    }

    static void throwsIndex(String what, Call call) {
        due(what + " throws", thrownBy(call), "IndexOutOfBoundsException");
    }

    static void throwsElement(String what, Call call) {
        due(what + " throws", thrownBy(call), "NoSuchElementException");
    }

    /** The plain name of what a call throws, or "nothing". */
    static String thrownBy(Call call) {
        try {
            call.run();
        } catch (RuntimeException e) {
            return e.getClass().getSimpleName();
        }
        return "nothing";
    }

    private static void report(String text) {
        wrong++;
        if (wrong <= 50) {
            System.out.println(text);
        }
    }

    static boolean isClean() {
        return wrong == 0;
    }

    static void finish(String test) {
        System.out.println(test + ": " + (wrong == 0 ? "all answers are as due" : wrong + " answers are not as due"));
        if (wrong != 0) {
            System.exit(1);
        }
    }

    /** Everything that the face tells of a field without changing it; an exception counts by its name. */
    static String stateOf(PairedField field) {
        // Asked for once: an object is good for 512 calls.
        int players = field.players();
        int rounds = field.rounds();
        StringBuilder text = new StringBuilder();
        text.append(players).append(' ').append(rounds).append(' ').append(field.ways());
        add(text, () -> field.cost());
        add(text, () -> field.missing());
        for (int i = 0; i < players; i++) {
            int p = i;
            text.append("\n").append(p).append(field.isIn(p) ? " in" : " out");
            add(text, () -> field.opponent(p));
            add(text, () -> field.isWhite(p));
            add(text, () -> field.table(p));
            for (int what = 0; what < 7; what++) {
                text.append(' ').append(field.tell(p, what));
            }
            for (int r = 0; r < rounds; r++) {
                text.append(' ').append(field.had(r, p));
            }
        }
        return text.toString();
    }

    private interface Question {
        Object ask();
    }

    private static void add(StringBuilder text, Question question) {
        text.append(' ');
        try {
            text.append(question.ask());
        } catch (RuntimeException e) {
            text.append(e.getClass().getSimpleName());
        }
    }
}
