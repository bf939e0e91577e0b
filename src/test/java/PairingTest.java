/** Promises 5 to 9: pairing a round, its cost, in how many ways it could be, opponents and colours. */
public final class PairingTest {
    /** Six rounds, each the opponents two and two, after which player 5 has balance 4 when all games are drawn. */
    private static final int[][] TO_BALANCE_FOUR = {
        {0, 4, 1, 11, 2, 3, 5, 9, 6, 10, 7, 8},
        {0, 7, 1, 5, 2, 6, 3, 8, 4, 11, 9, 10},
        {0, 1, 2, 10, 3, 9, 4, 7, 5, 6, 8, 11},
        {0, 2, 1, 4, 3, 10, 5, 8, 6, 7, 9, 11},
        {0, 10, 1, 6, 2, 8, 3, 11, 4, 9, 5, 7},
        {0, 6, 1, 10, 2, 5, 3, 4, 7, 11, 8, 9},
    };

    public static void main(String[] args) {
        firstRounds();
        byScores();
        squaresOfDifferences();
        byes();
        byesByScore();
        colours();
        clashes();
        noClashAfterOneGame();
        balanceBeyondThree();
        pairExceptions();
        oneOrNobodyIn();
        sixteenClosed();
        costAndWaysWhileOpen();
        opponentAndColourExceptions();
        Check.finish("PairingTest");
    }

    private static void firstRounds() {
        PairedField field = new PairedField(6);
        Check.due("cost of the first round", field.cost(), 0);
        Check.due("cost opens no round", field.ways(), 15);
        Check.throwsState("no round open yet", () -> field.missing());
        Check.due("pair", field.pair(), 3);
        Fields.dueOpponents("first round", field, 1, 0, 3, 2, 5, 4);
        Check.due("colours of the first round", Fields.colours(field), "w-w-w-");
        Fields.tellAll(field, 1);
        field.close();
        Check.due("ways in the second round", field.ways(), 8);
        field.pair();
        // 0-2 leaves 1, 3, 4, 5: 1-3 would leave 4-5, who have met.
        Fields.dueOpponents("second round", field, 2, 4, 0, 5, 1, 3);
    }

    private static void byScores() {
        PairedField field = new PairedField(4);
        field.pair();
        field.report(0, 0);
        field.report(2, 1);
        field.close();
        // Scores 0, 2, 1, 1: the order is 1, 2, 3, 0.
        Check.due("64 for each difference of 1", field.cost(), 128);
        field.pair();
        Fields.dueOpponents("of the same cost the first in the order goes first", field, 3, 2, 1, 0);
    }

    private static void squaresOfDifferences() {
        PairedField field = new PairedField(4);
        field.pair();
        field.report(0, 2);
        field.report(2, 2);
        field.close();
        field.pair();
        Check.due("same scores cost nothing", field.cost(), 0);
        Fields.dueOpponents("same scores meet", field, 2, 3, 0, 1);
        field.report(0, 2);
        field.report(1, 2);
        field.close();
        // Scores 4, 2, 2, 0; left are 0-3 with 64 * 16 and 1-2 with nothing.
        Check.due("the square of 4", field.cost(), 1024);
        field.pair();
        Fields.dueOpponents("whom they have not met", field, 3, 2, 1, 0);
    }

    private static void byes() {
        PairedField field = new PairedField(5);
        Check.due("ways without the one with the bye", field.ways(), 3);
        Check.due("games of five", field.pair(), 2);
        Fields.dueOpponents("bye to the greatest number", field, 1, 0, 3, 2, PairedField.BYE);
        Check.due("no colour in a bye", field.isWhite(4), false);
        Fields.tellAll(field, 1);
        field.close();
        field.pair();
        Check.due("who had a bye has fewer no more", field.opponent(4) != PairedField.BYE, true);
        Check.due("next by number among the same scores", field.opponent(3), PairedField.BYE);
    }

    private static void byesByScore() {
        PairedField field = new PairedField(5);
        field.pair();
        field.report(0, 0);
        field.report(2, 2);
        field.close();
        // Scores 0, 2, 2, 0, 2: of 0 and 3, with the least, 3 has the greatest number.
        field.pair();
        Check.due("bye by score, then number", field.opponent(3), PairedField.BYE);
        field.back();
        field.leave(3);
        field.enter();
        field.pair();
        Check.due("the new one has the least score and greatest number", field.opponent(5), PairedField.BYE);
        field.back();
        field.back();
        field.pair();
        Check.due("with no closed round, the greatest number that is in", field.opponent(5), PairedField.BYE);
    }

    private static void colours() {
        PairedField field = new PairedField(4);
        Fields.playDrawnRound(field);
        // 0 and 2 had white, 1 and 3 black; 0-2 and 1-3 have the same balance and colour, the closed rounds are odd.
        field.pair();
        Fields.dueOpponents("second round of four", field, 2, 3, 0, 1);
        Check.due("the later in the order is white", Fields.colours(field), "--ww");
        Fields.tellAll(field, 1);
        field.close();
        // Balances 0, -2, 2, 0: 0 had black last and 3 white, so 0 is white; 1 has less balance than 2.
        field.pair();
        Fields.dueOpponents("third round of four", field, 3, 2, 1, 0);
        Check.due("by balance and by latest colour", Fields.colours(field), "ww--");
        latestColourOfTheLater();
    }

    /** With the same balance 0, the later in the order had black last, and is white though the round is even. */
    private static void latestColourOfTheLater() {
        PairedField field = new PairedField(4);
        Fields.playDrawnRound(field);
        Fields.keepApartFrom(field, 0, 2);
        field.pair();
        Fields.dueOpponents("0 and 2 apart", field, 3, 2, 1, 0);
        Check.due("less balance is white", Fields.colours(field), "-w-w");
        Fields.tellAll(field, 1);
        field.close();
        // All balances are 0; 0 and 2 had black last, 1 and 3 white: nothing to tell 0 from 2.
        field.apart(0, 2, false);
        field.pair();
        Fields.dueOpponents("third round", field, 2, 3, 0, 1);
        Check.due("the earlier in the order when even", Fields.colours(field), "ww--");
        laterHadBlack();
    }

    private static void laterHadBlack() {
        PairedField field = new PairedField(6);
        Fields.playDrawnRound(field);
        Fields.keepApartFrom(field, 0, 2, 4);
        field.pair();
        // 0-3, then 1-2 leaves 4-5, who have met: 1-4 and 2-5.
        Fields.dueOpponents("0 apart from 2 and 4", field, 3, 4, 5, 0, 1, 2);
        Check.due("1, 3 and 5 are white", Fields.colours(field), "-w-w-w");
        Fields.tellAll(field, 1);
        field.close();
        Fields.keepApartFrom(field, 1, 0, 3, 5);
        // 1 plays 2: both have balance 0, 1 had white last and 2 black.
        field.pair();
        Check.due("1 plays 2", field.opponent(1), 2);
        Check.due("2 is white: 1 had white last", field.isWhite(2), true);
        Check.due("1 is black", field.isWhite(1), false);
    }

    private static void clashes() {
        PairedField field = new PairedField(8);
        Fields.playDrawnRound(field);
        Fields.playDrawnRound(field);
        // Balances 0 -2 2 0 0 -2 2 0; 2 and 6 had white twice, 1 and 5 black twice.
        int[] balances = {0, -2, 2, 0, 0, -2, 2, 0};
        for (int p = 0; p < 8; p++) {
            Check.due("balance of " + p, field.tell(p, 1), balances[p]);
        }
        Check.due("a pairing without a clash", field.cost(), 0);
        Fields.keepApartFrom(field, 2, 1, 4, 5, 7);
        // 2 must play 6 and is white, thrice in a row and with balance 3: two clashes.
        Check.due("two clashes of one who is white", field.cost(), 2);
        field.pair();
        Fields.dueOpponents("no clash beyond these", field, 4, 7, 6, 5, 0, 3, 2, 1);
        Check.due("the earlier is white when even", field.isWhite(2), true);
        field.back();
        Fields.keepApartFrom(field, 1, 4, 6, 7);
        // 1 must play 5, who is black thrice in a row and with balance -3.
        Check.due("two clashes more of one who is black", field.cost(), 4);
        field.pair();
        Fields.dueOpponents("first of the same cost", field, 3, 5, 6, 0, 7, 1, 2, 4);
        Fields.tellAll(field, 1);
        field.close();
        Check.due("balance 3", field.tell(2, 1), 3);
        Check.due("balance -3", field.tell(5, 1), -3);
    }

    private static void noClashAfterOneGame() {
        PairedField field = new PairedField(3);
        // 2 gets the bye, 0-1; then 1 gets the bye, 0-2; then 0 gets it, 1-2.
        field.pair();
        Fields.tellAll(field, 1);
        field.close();
        field.pair();
        Fields.dueOpponents("1 has the least score", field, 2, PairedField.BYE, 0);
        Check.due("2 has less balance", field.isWhite(2), true);
        Fields.tellAll(field, 1);
        field.close();
        field.pair();
        Fields.dueOpponents("0 is left for the bye", field, PairedField.BYE, 2, 1);
        // 1 had black (and a bye), 2 a bye and white: 1 is white by balance.
        Check.due("1 has less balance", field.isWhite(1), true);
        Check.due("no clash after one game each", field.cost(), 0);
    }

    private static void balanceBeyondThree() {
        PairedField field = new PairedField(12);
        for (int p = 0; p < 12; p++) {
            for (int q = p + 1; q < 12; q++) {
                field.apart(p, q, true);
            }
        }
        // Third round: 5 is white and 9 black a third time, with balances 3 and -3: two clashes each.
        // Fourth: 8 is white a third time in a row, with balance 2: one.
        // Fifth: 2 and 11 as 5 and 9 in the third; 5 and 9 come back to 3 and -3 after another colour: one each.
        // Sixth: 2 and 5 have balance 3; 5, who had black and then white, is white and has 4: one.
        int[] costs = {0, 0, 4, 1, 6, 1};
        for (int r = 0; r < costs.length; r++) {
            for (int i = 0; i < 12; i += 2) {
                field.apart(TO_BALANCE_FOUR[r][i], TO_BALANCE_FOUR[r][i + 1], false);
            }
            Check.due("one way in round " + r, field.ways(), 1);
            Check.due("cost in round " + r, field.cost(), costs[r]);
            Fields.playDrawnRound(field);
        }
        Check.due("balance 4", field.tell(5, 1), 4);
        for (int p = 0; p < 12; p++) {
            for (int q = p + 1; q < 12; q++) {
                field.apart(p, q, false);
            }
        }
        // Whoever plays 5 has less balance: 5 is black, and the balance becomes 3.
        Check.due("a balance that falls to 3 is a clash", field.cost(), 1);
    }

    private static void pairExceptions() {
        PairedField field = new PairedField(2);
        Check.due("pair of two", field.pair(), 1);
        String before = Check.stateOf(field);
        Check.throwsState("pair while open", () -> field.pair());
        Check.due("what threw changed nothing", Check.stateOf(field), before);
        field.report(0, 2);
        field.close();
        String closed = Check.stateOf(field);
        Check.throwsElement("pair of two who have met", () -> field.pair());
        Check.throwsElement("cost of it", () -> field.cost());
        Check.due("ways of it", field.ways(), 0);
        Check.due("what threw changed nothing", Check.stateOf(field), closed);
        field.back();
        Check.due("taken back, they have not met", field.pair(), 1);
        field.back();
        field.apart(0, 1, true);
        Check.throwsElement("pair of two kept apart", () -> field.pair());
        Check.throwsElement("cost of two kept apart", () -> field.cost());
    }

    private static void oneOrNobodyIn() {
        PairedField field = new PairedField(2);
        field.leave(0);
        Check.due("ways of one", field.ways(), 1);
        Check.due("cost of one", field.cost(), 0);
        Check.due("games of one", field.pair(), 0);
        Fields.dueOpponents("one in", field, PairedField.NONE, PairedField.BYE);
        Check.due("nothing to be told", field.missing(), 0);
        Check.due("close it", field.close(), 1);
        field.leave(1);
        Check.due("ways of nobody", field.ways(), 1);
        Check.throwsElement("cost of nobody", () -> field.cost());
        Check.throwsElement("pair of nobody", () -> field.pair());
        Check.due("play of nobody", field.play(3), 0);
        Check.due("rounds stay", field.rounds(), 1);
    }

    private static void sixteenClosed() {
        PairedField field = new PairedField(2);
        field.leave(1);
        Check.due("sixteen byes", field.play(16), 16);
        field.enter();
        Check.throwsState("pair when 16 are closed", () -> field.pair());
        // 0 with score 32, 2 with none.
        Check.due("cost when 16 are closed", field.cost(), 64 * 32 * 32);
        Check.due("ways when 16 are closed", field.ways(), 1);
        field.apart(0, 2, true);
        Check.throwsState("of two exceptions the first", () -> field.pair());
        Check.throwsElement("cost when 16 are closed and they can't be paired", () -> field.cost());
        Check.throwsState("of two exceptions the first, after cost", () -> field.pair());
        Check.due("ways of none", field.ways(), 0);
    }

    private static void costAndWaysWhileOpen() {
        PairedField field = new PairedField(6);
        field.play(1);
        int cost = field.cost();
        int ways = field.ways();
        field.pair();
        Check.due("cost of the open round", field.cost(), cost);
        Check.due("ways as if none was open", field.ways(), ways);
        Fields.tellAll(field, 2);
        Check.due("cost with all told", field.cost(), cost);
        Check.due("ways with all told", field.ways(), ways);
        field.back();
        Check.due("cost as before", field.cost(), cost);
        PairedField two = new PairedField(2);
        two.pair();
        Check.due("the open round is no game before", two.ways(), 1);
        Check.due("nor for the cost", two.cost(), 0);
    }

    private static void opponentAndColourExceptions() {
        PairedField field = new PairedField(3);
        Check.throwsState("opponent, none open", () -> field.opponent(0));
        Check.throwsState("isWhite, none open", () -> field.isWhite(0));
        Check.throwsIndex("opponent of none, none open", () -> field.opponent(3));
        Check.throwsIndex("isWhite of none, none open", () -> field.isWhite(-1));
        field.pair();
        Check.throwsIndex("opponent of none", () -> field.opponent(3));
        Check.throwsIndex("opponent of none", () -> field.opponent(-1));
        Check.throwsIndex("opponent of 12", () -> field.opponent(12));
        Check.throwsIndex("isWhite of none", () -> field.isWhite(3));
        Check.throwsIndex("isWhite of none", () -> field.isWhite(Integer.MIN_VALUE));
        Check.due("0 is white", field.isWhite(0), true);
        Check.due("1 is black", field.isWhite(1), false);
        Fields.tellAll(field, 0);
        Check.due("a told game has the same colours", Fields.colours(field), "w--");
        Fields.dueOpponents("a told game has the same opponents", field, 1, 0, PairedField.BYE);
        field.close();
        Check.throwsState("opponent, closed", () -> field.opponent(0));
        Check.throwsState("isWhite, closed", () -> field.isWhite(0));
    }
}
