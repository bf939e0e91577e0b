/** Promises 18 to 20: the figures of a player, what one had in a round, and the table. */
public final class StandingTest {
    public static void main(String[] args) {
        tell();
        tellExceptions();
        had();
        tableByEachRule();
        tableExceptions();
        Check.finish("StandingTest");
    }

    private static void tell() {
        PairedField field = new PairedField(5);
        field.pair();
        field.report(0, 2);
        field.report(2, 1);
        field.close();
        // Score, balance, Buchholz, Berger, games won, byes, games.
        dueFigures("after one round", field, "2 1 0 0 1 0 1", "0 -1 2 0 0 0 1", "1 1 1 1 0 0 1", "1 -1 1 1 0 0 1",
                "2 0 0 0 0 1 0");
        field.pair();
        // 1 gets the bye; the order of the others is 0, 4, 2, 3, and 2 and 3 have met: 0-2 and 4-3.
        Fields.dueOpponents("second round", field, 2, PairedField.BYE, 0, 4, 3);
        field.report(2, 2);
        field.report(4, 2);
        dueFigures("open rounds do not count", field, "2 1 0 0 1 0 1", "0 -1 2 0 0 0 1", "1 1 1 1 0 0 1",
                "1 -1 1 1 0 0 1", "2 0 0 0 0 1 0");
        Check.due("colours", Fields.colours(field), "--ww-");
        field.close();
        // Scores 2, 2, 3, 1, 4: all scores of opponents are those of now.
        dueFigures("after two rounds", field, "2 0 5 4 1 0 2", "2 -1 2 0 0 1 1", "3 2 3 5 1 0 2", "1 0 7 3 0 0 2",
                "4 -1 1 2 1 1 1");
        Check.due("table after two rounds", Fields.table(field), "4 2 0 1 3");
        field.leave(4);
        Check.due("who is out stays in the table", Fields.table(field), "4 2 0 1 3");
        Check.due("and keeps its figures", Fields.figures(field, 4), "4 -1 1 2 1 1 1");
    }

    private static void dueFigures(String what, PairedField field, String... figures) {
        for (int p = 0; p < figures.length; p++) {
            Check.due(what + ", player " + p, Fields.figures(field, p), figures[p]);
        }
    }

    private static void tellExceptions() {
        PairedField field = new PairedField(3);
        Check.throwsIndex("tell of none", () -> field.tell(3, 0));
        Check.throwsIndex("tell of none", () -> field.tell(-1, 0));
        Check.throwsIndex("tell of 12", () -> field.tell(12, 0));
        Check.throwsIndex("tell -1", () -> field.tell(0, -1));
        Check.throwsIndex("tell 7", () -> field.tell(0, 7));
        Check.throwsIndex("tell greatest", () -> field.tell(0, Integer.MAX_VALUE));
        Check.throwsIndex("tell neither", () -> field.tell(3, 7));
        Check.due("tell 6", field.tell(2, 6), 0);
    }

    private static void had() {
        PairedField field = new PairedField(5);
        field.leave(1);
        field.leave(3);
        field.pair();
        Check.throwsIndex("the open round is not had", () -> field.had(0, 0));
        Fields.tellAll(field, 1);
        field.close();
        Check.due("drawn as white", field.had(0, 0), 2 + 16 + 32);
        Check.due("drawn as black", field.had(0, 2), 32);
        Check.due("a bye", field.had(0, 4), 76);
        Check.due("out: nothing", field.had(0, 1), PairedField.NONE);
        Check.throwsIndex("no such round", () -> field.had(1, 0));
        Check.throwsIndex("no such round", () -> field.had(-1, 0));
        Check.throwsIndex("no such player", () -> field.had(0, 5));
        Check.throwsIndex("no such player", () -> field.had(0, -1));
        Check.throwsIndex("neither", () -> field.had(16, 12));
        field.enter();
        field.enter();
        Check.due("not there then: nothing", field.had(0, 6), PairedField.NONE);
        field.play(1);
        Check.due("the first round as it was", field.had(0, 0), 2 + 16 + 32);
        // 5 and 6 have no bye and the least score.
        Check.due("the newest one's bye", field.had(1, 6), 76);
        Check.throwsIndex("no third round", () -> field.had(2, 0));
    }

    private static void tableByEachRule() {
        PairedField field = new PairedField(6);
        Check.due("by number at first", Fields.table(field), "0 1 2 3 4 5");
        field.pair();
        field.report(1, 2);
        field.report(2, 1);
        field.report(5, 2);
        field.close();
        // Scores 0 2 1 1 0 2, Buchholz 2 0 1 1 2 0: by score, then by number.
        Check.due("by score", Fields.table(field), "1 5 2 3 0 4");
        byBuchholz();
        byBerger();
        byWins();
    }

    private static void byBuchholz() {
        PairedField field = new PairedField(4);
        field.pair();
        field.report(0, 0);
        field.report(2, 1);
        field.close();
        field.pair();
        Fields.dueOpponents("for Buchholz", field, 3, 2, 1, 0);
        field.report(0, 1);
        field.report(1, 0);
        field.close();
        // Scores 1, 2, 3, 2; Buchholz of 1 is 1 + 3, of 3 is 3 + 1; Berger of 1 is 2 * 1, of 3 is 3 + 1.
        Check.due("Buchholz of 1", field.tell(1, 2), 4);
        Check.due("Buchholz of 3", field.tell(3, 2), 4);
        Check.due("Berger of 1", field.tell(1, 3), 2);
        Check.due("Berger of 3", field.tell(3, 3), 4);
        Check.due("with the same Buchholz by Berger", Fields.table(field), "2 3 1 0");
    }

    private static void byBerger() {
        PairedField field = new PairedField(4);
        field.pair();
        field.report(0, 1);
        field.report(2, 2);
        field.close();
        field.pair();
        // Order 2, 0, 1, 3; 2-0 and 1-3 or 2-1 and 0-3, both 128.
        Fields.dueOpponents("for Berger", field, 2, 3, 0, 1);
        field.report(0, 1);
        field.report(1, 1);
        field.close();
        // Scores 2, 2, 3, 1: Buchholz of 0 is 2 + 3, of 1 is 2 + 1.
        Check.due("by Buchholz", Fields.table(field), "2 0 1 3");
        field.play(1);
        // 2-1 (a multiple of 3: drawn) and 0-3 (drawn): scores 3, 3, 4, 2.
        Check.due("by Buchholz after three", Fields.table(field), "2 0 1 3");
    }

    /** Two with the same score, Buchholz 0 and Berger 0: the one who won a game goes before the one with a bye. */
    private static void byWins() {
        PairedField field = new PairedField(3);
        field.pair();
        field.report(1, 2);
        field.close();
        Check.due("won before bye, by number too", Fields.table(field), "1 2 0");
        field.back();
        field.leave(0);
        field.enter();
        field.pair();
        // 3 gets the bye; 1 and 2 play.
        field.report(2, 2);
        field.close();
        Check.due("2 won, 3 had a bye", Fields.table(field), "2 3 1 0");
        winsBeforeNumber();
    }

    /** The one with the bye has the lesser number, and stands behind the one who won. */
    private static void winsBeforeNumber() {
        PairedField field = new PairedField(2);
        field.leave(1);
        field.play(1);
        field.enter();
        field.enter();
        field.leave(0);
        field.pair();
        field.report(3, 2);
        field.close();
        // 0 has 2 by a bye, 3 has 2 by a game with 2, who has nothing.
        Check.due("won before bye, against the numbers", Fields.table(field), "3 0 2 1");
    }

    private static void tableExceptions() {
        PairedField field = new PairedField(3);
        Check.throwsIndex("no place 3", () -> field.table(3));
        Check.throwsIndex("no place -1", () -> field.table(-1));
        Check.throwsIndex("no place least", () -> field.table(Integer.MIN_VALUE));
        Check.due("place 2", field.table(2), 2);
        field.enter();
        Check.due("place 3 now", field.table(3), 3);
    }
}
