/** 'What it is': "An object is used for at most 512 calls after it has been made"; the 512th is answered as due. */
public final class EdgesOfCallsTest {
    private static final int MOST_CALLS = 512;

    private interface Question {
        Object ask(PairedField field);
    }

    /** Calls of the face, each to be the 512th; those that answer nothing tell what came of them. */
    private static final Question[] QUESTIONS = {
        PairedField::enter,
        field -> nothing(() -> field.leave(0)),
        field -> field.apart(0, 1, true),
        PairedField::pair,
        PairedField::cost,
        PairedField::ways,
        field -> field.opponent(0),
        field -> field.isWhite(0),
        field -> nothing(() -> field.report(0, 2)),
        PairedField::missing,
        PairedField::close,
        PairedField::back,
        field -> field.play(16),
        PairedField::players,
        PairedField::rounds,
        field -> field.isIn(10),
        field -> field.tell(10, 0),
        field -> field.had(0, 10),
        field -> field.table(10),
    };

    public static void main(String[] args) {
        for (Question question : QUESTIONS) {
            lastCallWithNoRoundOpen(question);
            lastCallWithARoundOpen(question);
            lastCallAfterRefusedCalls(question);
        }
        dearestCallsOnly();
        Check.finish("EdgesOfCallsTest");
    }

    private static String nothing(Runnable call) {
        call.run();
        return "done";
    }

    private static String answer(PairedField field, Question question) {
        try {
            return String.valueOf(question.ask(field));
        } catch (RuntimeException e) {
            return e.getClass().getSimpleName();
        }
    }

    private static void sameAsOfAFreshOne(String what, PairedField used, PairedField fresh, Question question) {
        Check.due(what, answer(used, question), answer(fresh, question));
    }

    /** Eleven players with one round closed, after so many calls (an odd number). */
    private static PairedField playedAndTakenBack(int calls) {
        PairedField field = new PairedField(11);
        field.play(1);
        for (int call = 1; call < calls; call += 2) {
            field.play(1);
            field.back();
        }
        return field;
    }

    private static PairedField played() {
        PairedField field = new PairedField(11);
        field.play(1);
        return field;
    }

    private static void lastCallWithNoRoundOpen(Question question) {
        sameAsOfAFreshOne("call 512, none open", playedAndTakenBack(MOST_CALLS - 1), played(), question);
    }

    private static void lastCallWithARoundOpen(Question question) {
        PairedField used = playedAndTakenBack(MOST_CALLS - 3);
        used.pair();
        used.report(2, 0);
        PairedField fresh = played();
        fresh.pair();
        fresh.report(2, 0);
        sameAsOfAFreshOne("call 512, one open", used, fresh, question);
    }

    private static void lastCallAfterRefusedCalls(Question question) {
        PairedField used = played();
        for (int call = 1; call < MOST_CALLS - 1; call++) {
            Check.throwsIndex("refused", () -> used.leave(11));
        }
        sameAsOfAFreshOne("call 512, all others refused", used, played(), question);
    }

    /** All that can be asked of twelve players, with all ways open, 511 times. */
    private static void dearestCallsOnly() {
        PairedField field = new PairedField(12);
        for (int call = 1; call < MOST_CALLS; call++) {
            if (call % 2 == 0) {
                Check.due("cost in call " + call, field.cost(), 0);
            } else {
                Check.due("ways in call " + call, field.ways(), 10395);
            }
        }
        Check.due("play as call 512", field.play(16), new PairedField(12).play(16));
    }
}
