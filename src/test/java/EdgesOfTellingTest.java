/** Promises 10 and 18 to 20, and of 'Terms' the figures and the table: each sentence there that names an edge. */
public final class EdgesOfTellingTest {
    private static final int LEAST = Integer.MIN_VALUE;
    private static final int GREATEST = Integer.MAX_VALUE;
    private static final int[] NO_PLAYERS_OF_FIVE = {LEAST, -1, 5, 11, 12, 32, GREATEST};
    private static final int[] NO_RESULTS = {LEAST, -2, -1, 3, 4, 32, GREATEST};

    public static void main(String[] args) {
        eachResultOfEachOfTheTwo();
        reportOfNone();
        reportOfNoResult();
        reportWithoutRound();
        reportWithoutGame();
        reportTwice();
        whichExceptionOfReport();

        figuresFromFirstToLast();
        tellOfNoneOrNothing();
        scoreOfEachResult();
        scoreOfSixteenByes();
        onlyClosedRoundsCount();
        byesAreNoGames();

        hadOfEachKind();
        hadOfNone();
        hadOfNoRound();

        placesFromFirstToLast();
        noSuchPlace();
        tableByScoreFirst();
        tableByBuchholzThen();
        tableByBergerThen();
        tableByGamesWonThen();
        tableByNumberLast();
        tableOfThoseInOrOut();
        Check.finish("EdgesOfTellingTest");
    }

    private static PairedField opened(int players) {
        PairedField field = new PairedField(players);
        field.pair();
        return field;
    }

    /** 1 and 4 have a game, 5 has the bye, the others are out. */
    private static PairedField openedWithByeAndOut() {
        PairedField field = new PairedField(6);
        field.leave(0);
        field.leave(2);
        field.leave(3);
        field.pair();
        return field;
    }

    // Promise 10: "The game of a player in the open round was won (2), drawn (1) or lost (0).
    // IndexOutOfBoundsException when there is no such player; IllegalArgumentException when result is not 0 .. 2;
    // IllegalStateException when no round is open, the player has no game in it, or it was told before."

    private static void eachResultOfEachOfTheTwo() {
        for (int teller = 0; teller < 2; teller++) {
            for (int result = 0; result <= 2; result++) {
                PairedField field = opened(2);
                field.report(teller, result);
                field.close();
                String name = "report(" + teller + ", " + result + ")";
                Check.due(name + ": of the one who told", field.tell(teller, 0), result);
                Check.due(name + ": of the other", field.tell(1 - teller, 0), 2 - result);
                Check.due(name + ": won by the one", field.tell(teller, 4), result == 2 ? 1 : 0);
                Check.due(name + ": won by the other", field.tell(1 - teller, 4), result == 0 ? 1 : 0);
            }
        }
        PairedField twelve = opened(12);
        twelve.report(11, 2);
        twelve.report(0, 0);
        Check.due("of the first and of the last of twelve", twelve.missing(), 4);
    }

    private static void reportOfNone() {
        for (int none : NO_PLAYERS_OF_FIVE) {
            Refused.byIndex("report(" + none + ", 2) of 5", () -> opened(5), field -> field.report(none, 2));
        }
        for (int none : new int[] {-1, 12}) {
            Refused.byIndex("report(" + none + ", 0) of 12", () -> opened(12), field -> field.report(none, 0));
        }
    }

    private static void reportOfNoResult() {
        for (int result : NO_RESULTS) {
            for (int p : new int[] {0, 3}) {
                Refused.byArgument("report(" + p + ", " + result + ")", () -> opened(5),
                        field -> field.report(p, result));
            }
        }
    }

    private static void reportWithoutRound() {
        for (int result = 0; result <= 2; result++) {
            int told = result;
            Refused.byState("report at first", () -> new PairedField(5), field -> field.report(0, told));
            Refused.byState("report when it was closed", () -> {
                PairedField field = new PairedField(5);
                field.play(1);
                return field;
            }, field -> field.report(0, told));
            Refused.byState("report when it was taken back", () -> {
                PairedField field = opened(5);
                field.back();
                return field;
            }, field -> field.report(0, told));
            Refused.byState("report when 16 are closed", () -> Fields.afterByes(16), field -> field.report(0, told));
        }
    }

    private static void reportWithoutGame() {
        for (int result = 0; result <= 2; result++) {
            int told = result;
            Refused.byState("report of a bye", () -> opened(5), field -> field.report(4, told));
            for (int p : new int[] {0, 2, 3, 5}) {
                Refused.byState("report of a bye or one who is out: " + p, EdgesOfTellingTest::openedWithByeAndOut,
                        field -> field.report(p, told));
            }
        }
        PairedField field = openedWithByeAndOut();
        field.report(4, 0);
        Check.due("the one game is told", field.missing(), 0);
    }

    private static void reportTwice() {
        for (int first = 0; first <= 2; first++) {
            for (int then = 0; then <= 2; then++) {
                int told = first;
                int again = then;
                for (int p : new int[] {0, 1}) {
                    Refused.byState("told " + told + ", then " + again + " of " + p, () -> {
                        PairedField field = opened(4);
                        field.report(0, told);
                        return field;
                    }, field -> field.report(p, again));
                }
            }
        }
        PairedField field = opened(2);
        field.report(0, 0);
        field.back();
        field.pair();
        field.report(0, 2);
        field.close();
        Check.due("told anew when it was taken back", field.tell(0, 0), 2);
    }

    private static void whichExceptionOfReport() {
        for (int result : NO_RESULTS) {
            Refused.byIndex("none such before result " + result, () -> opened(5), field -> field.report(5, result));
            Refused.byIndex("none such before result and no round", () -> new PairedField(5),
                    field -> field.report(-1, result));
            Refused.byArgument("result " + result + " before no round", () -> new PairedField(5),
                    field -> field.report(0, result));
            Refused.byArgument("result " + result + " before a bye", () -> opened(5),
                    field -> field.report(4, result));
            Refused.byArgument("result " + result + " before out", EdgesOfTellingTest::openedWithByeAndOut,
                    field -> field.report(0, result));
            Refused.byArgument("result " + result + " before told", () -> {
                PairedField field = opened(5);
                field.report(0, 1);
                return field;
            }, field -> field.report(1, result));
        }
        for (int none : NO_PLAYERS_OF_FIVE) {
            Refused.byIndex("report(" + none + ", 1): none such before no round", () -> new PairedField(5),
                    field -> field.report(none, 1));
        }
    }

    // Promise 18: "Of a player: for what = 0 the score, 1 the balance, 2 Buchholz, 3 Berger, 4 games won, 5 byes, 6
    // games in closed rounds. IndexOutOfBoundsException when there is no such player or what."

    private static void figuresFromFirstToLast() {
        PairedField field = new PairedField(5);
        Fields.playRound(field, 0, 2, 2, 1);
        Check.due("figures of the first", Fields.figures(field, 0), "2 1 0 0 1 0 1");
        Check.due("figures of the last", Fields.figures(field, 4), "2 0 0 0 0 1 0");
    }

    private static void tellOfNoneOrNothing() {
        for (int none : NO_PLAYERS_OF_FIVE) {
            for (int what : new int[] {0, 6, -1, 7}) {
                Refused.byIndex("tell(" + none + ", " + what + ")", () -> opened(5), field -> field.tell(none, what));
            }
        }
        for (int what : new int[] {LEAST, -1, 7, 8, 32, GREATEST}) {
            for (int p : new int[] {0, 4}) {
                Refused.byIndex("tell(" + p + ", " + what + ")", () -> opened(5), field -> field.tell(p, what));
            }
        }
        Refused.byIndex("tell(12, 0) of 12", () -> new PairedField(12), field -> field.tell(12, 0));
        Check.due("tell(11, 6) of 12", new PairedField(12).tell(11, 6), 0);
    }

    // Terms: "THE SCORE of a player is, over all closed rounds, 2 for a game won and for a bye, 1 for a game drawn."

    private static void scoreOfEachResult() {
        PairedField field = new PairedField(5);
        Fields.playRound(field, 0, 2, 2, 1);
        int[] scores = {2, 0, 1, 1, 2};
        for (int p = 0; p < scores.length; p++) {
            Check.due("won, lost, drawn, drawn, bye: " + p, field.tell(p, 0), scores[p]);
        }
    }

    private static void scoreOfSixteenByes() {
        for (int byes = 0; byes <= 16; byes++) {
            PairedField field = Fields.afterByes(byes);
            Check.due("score of " + byes + " byes", field.tell(0, 0), 2 * byes);
            Check.due("number of " + byes + " byes", field.tell(0, 5), byes);
        }
    }

    private static void onlyClosedRoundsCount() {
        PairedField field = opened(5);
        Fields.tellAll(field, 2);
        for (int p = 0; p < 5; p++) {
            Check.due("told, but not closed: " + p, Fields.figures(field, p), "0 0 0 0 0 0 0");
        }
        field.close();
        Check.due("closed", Fields.figures(field, 0), "2 1 0 0 1 0 1");
        field.back();
        for (int p = 0; p < 5; p++) {
            Check.due("closed, but taken back: " + p, Fields.figures(field, p), "0 0 0 0 0 0 0");
        }
    }

    /** A bye is no game, no game won and no colour, and has no opponent for Buchholz and Berger. */
    private static void byesAreNoGames() {
        Check.due("16 byes", Fields.figures(Fields.afterByes(16), 0), "32 0 0 0 0 16 0");
        PairedField field = Fields.afterByes(2);
        field.enter();
        Fields.playRound(field, 0, 1);
        Check.due("two byes and a game drawn", Fields.figures(field, 0), "5 1 1 1 0 2 1");
        Check.due("a game drawn with it", Fields.figures(field, 2), "1 -1 5 5 0 0 1");
    }

    // Promise 19: "What a player had in closed round r (from 0): the opponent's number + 16 when white + 32 * the
    // player's result (2, 1, 0); 12 + 64 for a bye; NONE for nothing. IndexOutOfBoundsException when there is no such
    // player or round."

    private static void hadOfEachKind() {
        for (int result = 0; result <= 2; result++) {
            PairedField field = new PairedField(12);
            Fields.leaveAllBut(field, 0, 11);
            Fields.playRound(field, 0, result);
            Check.due("white against the last", field.had(0, 0), 11 + 16 + 32 * result);
            Check.due("black against the first", field.had(0, 11), 32 * (2 - result));
            Check.due("nothing", field.had(0, 5), PairedField.NONE);
        }
        PairedField byes = Fields.afterByes(16);
        Check.due("a bye in the first round", byes.had(0, 0), 12 + 64);
        Check.due("a bye in the last round", byes.had(15, 0), 12 + 64);
        Check.due("out in the first round", byes.had(0, 1), PairedField.NONE);
        Check.due("out in the last round", byes.had(15, 1), PairedField.NONE);
        byes.enter();
        Check.due("not there in any round", byes.had(15, 2), PairedField.NONE);
    }

    private static PairedField fiveAfterTwo() {
        PairedField field = new PairedField(5);
        field.play(2);
        return field;
    }

    private static void hadOfNone() {
        for (int none : NO_PLAYERS_OF_FIVE) {
            for (int r : new int[] {0, 1, 2}) {
                Refused.byIndex("had(" + r + ", " + none + ")", EdgesOfTellingTest::fiveAfterTwo,
                        field -> field.had(r, none));
            }
        }
        Refused.byIndex("had(0, 12) of 12", () -> {
            PairedField field = new PairedField(12);
            field.play(1);
            return field;
        }, field -> field.had(0, 12));
    }

    private static void hadOfNoRound() {
        for (int r : new int[] {LEAST, -1, 2, 15, 16, 32, GREATEST}) {
            for (int p : new int[] {0, 4}) {
                Refused.byIndex("had(" + r + ", " + p + ")", EdgesOfTellingTest::fiveAfterTwo,
                        field -> field.had(r, p));
            }
        }
        Refused.byIndex("had of the open round", () -> {
            PairedField field = fiveAfterTwo();
            field.pair();
            return field;
        }, field -> field.had(2, 0));
        Refused.byIndex("had of a round taken back", () -> {
            PairedField field = fiveAfterTwo();
            field.back();
            return field;
        }, field -> field.had(1, 0));
        Refused.byIndex("had of a first round that is not yet", () -> new PairedField(2), field -> field.had(0, 0));
        Refused.byIndex("had of a seventeenth", () -> Fields.afterByes(16), field -> field.had(16, 0));
        Refused.byIndex("had of the one before the first", () -> Fields.afterByes(16), field -> field.had(-1, 0));
    }

    // Promise 20: "The player at a place (from 0) of the table. IndexOutOfBoundsException when there is no such
    // place."

    private static void placesFromFirstToLast() {
        for (int players = 2; players <= 12; players++) {
            PairedField field = new PairedField(players);
            for (int place = 0; place < players; place++) {
                Check.due("place " + place + " of " + players, field.table(place), place);
            }
        }
        PairedField field = Fields.afterByes(1);
        field.enter();
        Check.due("with one who came", Fields.table(field), "0 1 2");
    }

    private static void noSuchPlace() {
        for (int place : NO_PLAYERS_OF_FIVE) {
            Refused.byIndex("table(" + place + ") of 5", EdgesOfTellingTest::fiveAfterTwo,
                    field -> field.table(place));
        }
        for (int place : new int[] {-1, 12}) {
            Refused.byIndex("table(" + place + ") of 12", () -> new PairedField(12), field -> field.table(place));
        }
    }

    // Terms: "THE TABLE: the players, in or out, by score, the greatest first, then by BUCHHOLZ ..., then by BERGER
    // ..., the greatest first, then by the number of games won, the most first, then by number, the least first."

    /** Of two the one with more comes first, though all that is looked at later is for the other. */
    private static void dueFirst(String by, PairedField field, int first, String figures, int other, String others) {
        Check.due(by + ": figures of the first", Fields.figures(field, first), figures);
        Check.due(by + ": figures of the other", Fields.figures(field, other), others);
    }

    private static void tableByScoreFirst() {
        PairedField field = new PairedField(5);
        Fields.playRound(field, 0, 1, 3, 2);
        field.pair();
        Fields.dueOpponents("by score", field, 3, 4, PairedField.BYE, 0, 1);
        field.report(0, 2);
        field.report(1, 1);
        field.close();
        // Scores 3 2 2 2 3: 4 has more than 3, but less Buchholz, Berger and games won, and the greater number.
        dueFirst("by score", field, 4, "3 -1 2 2 0 1 1", 3, "2 0 5 4 1 0 2");
        Check.due("by score", Fields.table(field), "0 4 1 3 2");
    }

    private static void tableByBuchholzThen() {
        PairedField field = new PairedField(6);
        Fields.playRound(field, 0, 0, 2, 1, 4, 1);
        field.pair();
        Fields.dueOpponents("by Buchholz", field, 5, 2, 1, 4, 3, 0);
        field.report(0, 2);
        field.report(1, 0);
        field.report(3, 2);
        field.close();
        field.pair();
        Fields.dueOpponents("by Buchholz, then", field, 2, 4, 0, 5, 1, 3);
        field.report(0, 2);
        field.report(1, 0);
        field.report(3, 1);
        field.close();
        // Scores 4 2 3 4 3 2: 5 met 4, 0, 3 (3 + 4 + 4), 1 met 0, 2, 4 (4 + 3 + 3) and beat 0.
        dueFirst("by Buchholz", field, 5, "2 -1 11 7 0 0 3", 1, "2 -1 10 8 1 0 3");
        Check.due("by Buchholz", Fields.table(field), "3 0 2 4 5 1");
    }

    private static void tableByBergerThen() {
        PairedField field = new PairedField(4);
        Fields.playRound(field, 0, 2, 2, 1);
        field.pair();
        Fields.dueOpponents("by Berger", field, 2, 3, 0, 1);
        field.report(0, 1);
        field.report(1, 2);
        field.close();
        // Scores 3 2 2 1: 2 drew with 3 and 0 (1 + 3), 1 beat 3 (2 * 1) and lost to 0.
        dueFirst("by Berger", field, 2, "2 2 4 4 0 0 2", 1, "2 0 4 2 1 0 2");
        Check.due("by Berger", Fields.table(field), "0 2 1 3");
    }

    /** All four have met, with score 3, Buchholz 9 and Berger 9 each; only 2 has won no game. */
    private static PairedField fourAlike() {
        PairedField field = new PairedField(4);
        Fields.playRound(field, 0, 2, 2, 1);
        Fields.playRound(field, 0, 1, 1, 2);
        Fields.playRound(field, 0, 0, 1, 1);
        return field;
    }

    private static void tableByGamesWonThen() {
        PairedField field = fourAlike();
        dueFirst("by games won", field, 3, "3 -1 9 9 1 0 3", 2, "3 1 9 9 0 0 3");
        Check.due("by games won", Fields.table(field), "0 1 3 2");
    }

    private static void tableByNumberLast() {
        PairedField field = fourAlike();
        dueFirst("by number", field, 0, "3 -1 9 9 1 0 3", 1, "3 1 9 9 1 0 3");
        dueFirst("by number, not by balance", field, 1, "3 1 9 9 1 0 3", 3, "3 -1 9 9 1 0 3");
        Check.due("by number", Fields.table(field), "0 1 3 2");
    }

    private static void tableOfThoseInOrOut() {
        PairedField field = new PairedField(5);
        Fields.playRound(field, 0, 0, 2, 0);
        Check.due("all in", Fields.table(field), "1 3 4 0 2");
        field.leave(1);
        field.leave(0);
        Check.due("some out", Fields.table(field), "1 3 4 0 2");
        Check.due("whose opponent is out keeps Buchholz", field.tell(0, 2), 2);
        Fields.leaveAllBut(field);
        Check.due("all out", Fields.table(field), "1 3 4 0 2");
        field.enter();
        Check.due("and one in, with nothing", Fields.table(field), "1 3 4 0 2 5");
    }
}
