/** Promises 10 to 14 and 16: telling results, closing rounds, taking them back, playing by number. */
public final class ResultsTest {
    public static void main(String[] args) {
        report();
        reportExceptions();
        missingAndClose();
        back();
        play();
        playUntilNoPairing();
        playExceptions();
        rounds();
        Check.finish("ResultsTest");
    }

    private static void report() {
        PairedField field = new PairedField(6);
        field.pair();
        field.report(0, 2);
        field.report(3, 2);
        field.report(5, 1);
        field.close();
        // White + 16, result * 32.
        int[] had = {1 + 16 + 64, 0, 3 + 16, 2 + 64, 5 + 16 + 32, 4 + 32};
        for (int p = 0; p < had.length; p++) {
            Check.due("had(0, " + p + ")", field.had(0, p), had[p]);
        }
    }

    private static void reportExceptions() {
        PairedField field = new PairedField(5);
        Check.throwsState("report, none open", () -> field.report(0, 1));
        Check.throwsArgument("bad result before none open", () -> field.report(0, 3));
        Check.throwsIndex("no player before bad result", () -> field.report(5, 3));
        field.leave(4);
        field.enter();
        field.pair();
        String before = Check.stateOf(field);
        Check.throwsIndex("report of none", () -> field.report(6, 1));
        Check.throwsIndex("report of none", () -> field.report(-1, 1));
        Check.throwsArgument("result 3", () -> field.report(0, 3));
        Check.throwsArgument("result -1", () -> field.report(0, -1));
        Check.throwsArgument("greatest result", () -> field.report(0, Integer.MAX_VALUE));
        Check.throwsArgument("bad result before no game", () -> field.report(4, -1));
        Check.throwsState("report of one who is out", () -> field.report(4, 1));
        Check.throwsState("report of a bye", () -> field.report(5, 2));
        Check.due("what threw changed nothing", Check.stateOf(field), before);
        field.report(1, 2);
        Check.throwsState("told before", () -> field.report(1, 2));
        Check.throwsState("told before by the other", () -> field.report(0, 1));
        Check.throwsArgument("bad result before told", () -> field.report(0, 4));
        field.report(2, 0);
        field.close();
        Check.due("the first word stands", field.tell(1, 0), 2);
        Check.due("and for the other", field.tell(0, 0), 0);
        Check.throwsState("report, closed", () -> field.report(0, 1));
    }

    private static void missingAndClose() {
        PairedField field = new PairedField(7);
        Check.throwsState("missing, none open", () -> field.missing());
        Check.throwsState("close, none open", () -> field.close());
        field.pair();
        Check.due("missing at first", field.missing(), 3);
        Check.throwsState("close, three missing", () -> field.close());
        field.report(1, 0);
        Check.due("missing two", field.missing(), 2);
        field.report(2, 1);
        Check.due("missing one", field.missing(), 1);
        Check.throwsState("close, one missing", () -> field.close());
        Check.due("no round closed", field.rounds(), 0);
        Check.due("scores only of closed rounds", field.tell(0, 0), 0);
        field.report(4, 2);
        Check.due("missing none", field.missing(), 0);
        Check.due("close", field.close(), 1);
        Check.due("scores of the closed round", field.tell(0, 0), 2);
        Check.due("score of the bye", field.tell(6, 0), 2);
        Check.throwsState("close twice", () -> field.close());
        Check.throwsState("missing, closed", () -> field.missing());
        field.pair();
        Check.due("missing in the next round", field.missing(), 3);
    }

    private static void back() {
        PairedField field = new PairedField(4);
        Check.throwsState("back, nothing there", () -> field.back());
        String fresh = Check.stateOf(field);
        field.pair();
        field.report(0, 2);
        Check.due("back from the open round", field.back(), 0);
        Check.due("as if it had never been", Check.stateOf(field), fresh);
        field.pair();
        Check.due("what was told is forgotten", field.missing(), 2);
        Fields.tellAll(field, 0);
        field.close();
        String one = Check.stateOf(field);
        Check.due("play one more", field.play(1), 1);
        field.pair();
        Check.due("back from the open third", field.back(), 2);
        Check.due("back from the closed second", field.back(), 1);
        Check.due("as after the first", Check.stateOf(field), one);
        Check.throwsIndex("no second round", () -> field.had(1, 0));
        Check.due("back from the first", field.back(), 0);
        Check.due("as at first", Check.stateOf(field), fresh);
        Check.throwsState("back, nothing left", () -> field.back());
    }

    private static void play() {
        PairedField field = new PairedField(6);
        Check.due("play one", field.play(1), 1);
        // 0-1 and 4-5 have sums 1 and 9, 2-3 has 5.
        int[] had = {1 + 16 + 64, 0, 3 + 16 + 64, 2, 5 + 16 + 32, 4 + 32};
        for (int p = 0; p < had.length; p++) {
            Check.due("played: had(0, " + p + ")", field.had(0, p), had[p]);
        }
        Check.throwsState("no round is open after play", () -> field.missing());
        PairedField other = new PairedField(6);
        Check.due("play three", other.play(3), 3);
        field.play(1);
        field.play(1);
        Check.due("thrice one is three", Check.stateOf(field), Check.stateOf(other));
        Check.due("play none", field.play(0), 0);
        Check.due("and none was", field.rounds(), 3);
        // 0-2, 1-4, 3-5, then 0-3, 1-5, 2-4, all drawn: scores 5 3 3 3 2 2, Buchholz 9 9 10 10 8 8, and Berger of
        // 2 is 8, of 3 is 9.
        Check.due("table after three", Fields.table(field), "0 3 2 1 4 5");
    }

    private static void playUntilNoPairing() {
        PairedField field = new PairedField(3);
        Check.due("three rounds of three", field.play(16), 3);
        Check.due("no more", field.play(16), 0);
        field.leave(0);
        Check.due("two who have met", field.play(1), 0);
        field.leave(1);
        Check.due("byes up to 16", field.play(16), 13);
        Check.due("none when 16 are closed", field.play(16), 0);
        Check.due("score of 14 byes and two games", field.tell(2, 0), 28 + 1);
        field.back();
        Check.due("one is left", field.play(16), 1);
        PairedField two = new PairedField(2);
        Check.due("two play once", two.play(2), 1);
        Check.due("0 won", two.tell(0, 4), 1);
    }

    private static void playExceptions() {
        PairedField field = new PairedField(4);
        Check.throwsArgument("play(-1)", () -> field.play(-1));
        Check.throwsArgument("play(17)", () -> field.play(17));
        Check.throwsArgument("play(least)", () -> field.play(Integer.MIN_VALUE));
        field.pair();
        Check.throwsState("play while open", () -> field.play(1));
        Check.throwsState("play of none while open", () -> field.play(0));
        Check.throwsArgument("bad number before open", () -> field.play(17));
        Check.due("the round is open still", field.missing(), 2);
        Check.due("none was closed", field.rounds(), 0);
    }

    private static void rounds() {
        PairedField field = new PairedField(4);
        Check.due("none at first", field.rounds(), 0);
        field.pair();
        Check.due("an open one does not count", field.rounds(), 0);
        Fields.tellAll(field, 1);
        field.close();
        Check.due("one closed", field.rounds(), 1);
        field.play(2);
        Check.due("three closed", field.rounds(), 3);
        field.back();
        Check.due("one taken back", field.rounds(), 2);
    }
}
