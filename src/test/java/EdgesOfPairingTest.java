/** 'Terms', how a round is paired: each sentence there that names an edge. */
public final class EdgesOfPairingTest {
    /**
     * Rounds of twelve, each the opponents two and two: all games drawn, scores and the order stay by number, and the
     * colours of 3 become WWWBWW, those of 9 BBBWBB.
     */
    private static final int[][] DRAWN_ROUNDS = {
        {0, 1, 2, 10, 3, 7, 4, 9, 5, 8, 6, 11},
        {0, 3, 1, 8, 2, 5, 4, 6, 7, 10, 9, 11},
        {0, 8, 1, 11, 2, 6, 3, 5, 4, 10, 7, 9},
        {0, 2, 1, 7, 3, 4, 5, 6, 8, 9, 10, 11},
        {0, 5, 1, 9, 2, 4, 3, 6, 7, 11, 8, 10},
        {0, 6, 1, 5, 2, 3, 4, 7, 8, 11, 9, 10},
    };

    public static void main(String[] args) {
        orderByScore();
        orderByNumberOfTheSame();

        byeOnlyWhenOdd();
        byeOnlyForThoseIn();
        byeByFewestByes();
        byeByFewerByesOfMany();
        byeByLeastScore();
        byeByGreatestNumber();
        byeOfTheFirstInTheOrder();

        nobodyMeetsTwice();
        nobodyMeetsWhomItIsKeptApartFrom();

        costOfEachDifference();
        costOfASumOfGames();

        whiteByBalance();
        whiteByLatestColour();
        whiteByLatestGameBeforeAByeToo();
        whiteByRoundWhenOneHadNoGame();
        whiteByRoundOtherwise();

        noClashBeforeTwoGames();
        clashOfTheThirdColourInARow();
        noClashWhenOnlyTheLatestIsTheSame();
        clashOfColourAcrossAByeToo();
        clashOfABalanceOfThree();
        noClashOfABalanceOfTwo();
        clashOfABalanceBeyondThree();
        clashOfABalanceThatComesBackToThree();
        clashesOfBoth();

        leastCostBeforeAllElse();
        firstInTheOrderHasTheFirst();
        thenTheNextThatIsLeft();
        Check.finish("EdgesOfPairingTest");
    }

    /** Two players alone, with the colours that they have after so many of the drawn rounds. */
    private static PairedField twoAfterDrawn(int rounds, int p, int q) {
        PairedField field = Fields.allApart(12);
        for (int r = 0; r < rounds; r++) {
            Fields.letMeet(field, DRAWN_ROUNDS[r]);
            Fields.playDrawnRound(field);
        }
        Fields.letMeet(field, p, q);
        Fields.leaveAllBut(field, p, q);
        return field;
    }

    private static String coloursBehind(PairedField field, int p) {
        StringBuilder text = new StringBuilder();
        int rounds = field.rounds();
        for (int r = 0; r < rounds; r++) {
            int had = field.had(r, p);
            text.append(had == PairedField.NONE ? '-' : had == 76 ? 'o' : (had & 16) != 0 ? 'W' : 'B');
        }
        return text.toString();
    }

    /** The game of two after the drawn rounds: who had which colours, who is white, and what it costs. */
    private static void dueGame(String what, int white, String coloursOfWhite, int black, String coloursOfBlack,
            int cost) {
        PairedField field = twoAfterDrawn(coloursOfWhite.length(), white, black);
        Check.due(what + ": colours of " + white, coloursBehind(field, white), coloursOfWhite);
        Check.due(what + ": colours of " + black, coloursBehind(field, black), coloursOfBlack);
        Check.due(what + ": cost", field.cost(), cost);
        Check.due(what + ": one game", field.pair(), 1);
        Check.due(what + ": cost of the open round", field.cost(), cost);
        Check.due(what + ": opponent", field.opponent(white), black);
        Check.due(what + ": white is " + white, field.isWhite(white), true);
        Check.due(what + ": black is " + black, field.isWhite(black), false);
    }

    // "THE ORDER of players is by score, the greatest first, then by number, the least first."

    private static void orderByScore() {
        PairedField field = new PairedField(4);
        Fields.playRound(field, 1, 2, 3, 1);
        // Scores 0 2 1 1: the order is 1 2 3 0. By number, 0 would be first and have 2, at the same cost.
        field.pair();
        Fields.dueOpponents("the greatest score first", field, 3, 2, 1, 0);
    }

    private static void orderByNumberOfTheSame() {
        for (int players = 4; players <= 12; players += 2) {
            PairedField field = new PairedField(players);
            field.pair();
            for (int p = 0; p < players; p++) {
                Check.due("with the same score by number: " + p, field.opponent(p), p ^ 1);
                Check.due("white is the one before: " + p, field.isWhite(p), p % 2 == 0);
            }
        }
    }

    // "when the number of those that are in is odd, one of them gets a bye: the one with the fewest byes so far, of
    // several the one with the least score, of several with the greatest number."

    private static void byeOnlyWhenOdd() {
        for (int players = 2; players <= 12; players++) {
            PairedField field = new PairedField(players);
            field.pair();
            int byes = 0;
            for (int p = 0; p < players; p++) {
                byes += field.opponent(p) == PairedField.BYE ? 1 : 0;
            }
            Check.due("byes of " + players, byes, players % 2);
        }
        Check.due("one alone has it", openedBye(Fields.afterByes(0)), 0);
        Check.due("for the sixteenth time too", openedBye(Fields.afterByes(15)), 0);
    }

    /** Who has the bye in a round that is paired now. */
    private static int openedBye(PairedField field) {
        field.pair();
        for (int p = 0; p < field.players(); p++) {
            if (field.opponent(p) == PairedField.BYE) {
                return p;
            }
        }
        return PairedField.NONE;
    }

    private static void byeOnlyForThoseIn() {
        PairedField field = new PairedField(4);
        field.leave(3);
        Check.due("four, one out: odd", openedBye(field), 2);
        PairedField even = new PairedField(5);
        even.leave(0);
        Check.due("five, one out: even", openedBye(even), PairedField.NONE);
        PairedField second = new PairedField(5);
        second.leave(4);
        second.leave(3);
        Check.due("the greatest number of those in", openedBye(second), 2);
    }

    private static void byeByFewestByes() {
        PairedField field = new PairedField(3);
        Fields.playRound(field, 0, 2);
        Fields.playRound(field, 0, 2);
        // 2 and then 1 had a bye; scores 4 2 2: 0 has the greatest score and the least number, and no bye so far.
        Check.due("byes of 1", field.tell(1, 5), 1);
        Check.due("byes of 2", field.tell(2, 5), 1);
        Check.due("score of 0", field.tell(0, 0), 4);
        Check.due("the fewest byes before the least score", openedBye(field), 0);
    }

    /** 1 has two byes and the least score, the others one each: 1 is not asked, though they could then be paired. */
    private static void byeByFewerByesOfMany() {
        PairedField field = new PairedField(2);
        field.leave(0);
        field.play(2);
        for (int p = 2; p <= 5; p++) {
            field.enter();
        }
        // Players with no bye yet are 5, 4, 3, 2 by turns; 1 loses to all.
        Fields.playRound(field, 1, 0, 3, 1);
        Fields.playRound(field, 1, 0, 2, 1);
        Fields.playRound(field, 1, 0, 2, 1);
        Fields.playRound(field, 1, 0, 4, 1);
        int[] scores = {0, 4, 6, 6, 6, 6};
        int[] byes = {0, 2, 1, 1, 1, 1};
        for (int p = 0; p < scores.length; p++) {
            Check.due("score of " + p, field.tell(p, 0), scores[p]);
            Check.due("byes of " + p, field.tell(p, 5), byes[p]);
        }
        // 5 gets the bye, and 1 has met 2, 3 and 4; with a bye for 1, 2-4 and 3-5 would be left.
        Check.due("no way with the bye of 5", field.ways(), 0);
        Check.throwsElement("no pairing", () -> field.pair());
        field.leave(1);
        Check.due("the way without 1", field.ways(), 1);
        field.pair();
        Fields.dueOpponents("2-4 and 3-5", field, PairedField.NONE, PairedField.NONE, 4, 5, 2, 3);
    }

    private static void byeByLeastScore() {
        PairedField field = new PairedField(3);
        Fields.playRound(field, 0, 0);
        Check.due("the least score before the greatest number", openedBye(field), 0);
        PairedField drawn = new PairedField(5);
        Fields.playRound(drawn, 0, 1, 2, 2);
        // Scores 1 1 2 0 2.
        Check.due("one less than others", openedBye(drawn), 3);
    }

    private static void byeByGreatestNumber() {
        for (int players = 3; players <= 11; players += 2) {
            Check.due("all the same: of " + players, openedBye(new PairedField(players)), players - 1);
        }
        PairedField field = new PairedField(3);
        Fields.playRound(field, 0, 1);
        Check.due("of two with the same score", openedBye(field), 1);
    }

    /** "the first player in the order (of those that are not having the bye)" */
    private static void byeOfTheFirstInTheOrder() {
        PairedField field = new PairedField(3);
        Fields.playRound(field, 0, 2);
        Fields.playRound(field, 0, 2);
        Check.due("ways without the first", field.ways(), 1);
        field.pair();
        Fields.dueOpponents("the first has the bye", field, PairedField.BYE, 2, 1);
        // 1 had black and a bye, 2 a bye and white.
        Check.due("the others play", field.isWhite(1), true);
    }

    // "All others that are in are paired, two and two, so that no two have a game who had one before or are KEPT
    // APART."

    private static void nobodyMeetsTwice() {
        PairedField field = new PairedField(4);
        field.play(3);
        for (int p = 0; p < 4; p++) {
            int met = 0;
            for (int r = 0; r < 3; r++) {
                met |= 1 << (field.had(r, p) & 15);
            }
            Check.due("has met all others: " + p, met, 15 & ~(1 << p));
        }
        Check.throwsElement("nobody is left to meet", () -> field.pair());
        // Games far back count as well, and those with one who is out do not matter.
        PairedField late = new PairedField(2);
        late.play(1);
        late.enter();
        late.enter();
        Fields.playDrawnRound(late);
        late.leave(2);
        late.leave(3);
        Check.due("met two rounds ago", late.ways(), 0);
        late.back();
        late.back();
        Check.due("not when it is taken back", late.ways(), 1);
    }

    private static void nobodyMeetsWhomItIsKeptApartFrom() {
        PairedField field = Fields.allApart(4);
        Check.throwsElement("all apart", () -> field.pair());
        Fields.letMeet(field, 0, 3);
        Check.throwsElement("but two", () -> field.pair());
        Fields.letMeet(field, 1, 2);
        Check.due("the one way", field.pair(), 2);
        Fields.dueOpponents("the one way", field, 3, 2, 1, 0);
    }

    // "64 times the square of the difference of their scores, and 1 for each CLASH."

    private static void costOfEachDifference() {
        for (int byes = 0; byes <= 16; byes++) {
            PairedField field = Fields.afterByes(byes);
            field.enter();
            Check.due("cost of a difference of " + 2 * byes, field.cost(), 64 * 2 * byes * 2 * byes);
        }
        PairedField one = new PairedField(4);
        Fields.playRound(one, 0, 2, 2, 1);
        Fields.leaveAllBut(one, 0, 2);
        Check.due("cost of a difference of 1", one.cost(), 64);
        PairedField odd = new PairedField(4);
        Fields.playRound(odd, 1, 2, 3, 1);
        Fields.leaveAllBut(odd, 0, 3);
        Check.due("cost of a difference of 1, the greater number before", odd.cost(), 64);
    }

    private static void costOfASumOfGames() {
        PairedField field = new PairedField(4);
        Fields.playRound(field, 0, 2, 2, 1);
        // Scores 2 0 1 1.
        Check.due("cost of two games, 64 each", field.cost(), 64 + 64);
        PairedField none = new PairedField(2);
        none.leave(0);
        Check.due("cost of no games", none.cost(), 0);
        PairedField far = Fields.afterByes(16);
        for (int p = 2; p < 7; p++) {
            far.enter();
        }
        Check.due("cost of three games, one of them dear", far.cost(), 64 * 32 * 32);
    }

    // "White is the one with the less balance; with the same balance, the one whose latest colour is black while the
    // other's is white; otherwise p when the number of closed rounds is even, q when it is odd."

    private static void whiteByBalance() {
        dueGame("less balance, odd, the one before", 1, "B", 2, "W", 0);
        dueGame("less balance, odd, the one behind", 1, "B", 3, "W", 0);
        dueGame("less balance, even, the one before", 0, "WB", 5, "WW", 0);
        dueGame("less balance, even, the one behind", 7, "BB", 0, "WB", 0);
        dueGame("by one only though the latest colours are against it", 2, "WBW", 3, "WWW", 0);
    }

    private static void whiteByLatestColour() {
        // In the first three it would be the other one by the number of closed rounds.
        dueGame("even, the one behind had black", 3, "WWWB", 2, "WBWW", 1);
        dueGame("even, the one behind had black, balances below 0", 10, "BWBB", 9, "BBBW", 1);
        dueGame("odd, the one before had black", 6, "WWBWB", 7, "BBWWW", 0);
        dueGame("even, the one before had black", 0, "WB", 11, "BW", 0);
        dueGame("odd, the one behind had black", 5, "WWB", 0, "WBW", 0);
    }

    private static void whiteByLatestGameBeforeAByeToo() {
        PairedField field = new PairedField(2);
        Fields.playRound(field, 0, 0);
        field.enter();
        field.enter();
        Fields.playRound(field, 3, 2, 1, 1);
        field.leave(1);
        Fields.playRound(field, 2, 1);
        field.leave(3);
        // 0 had white, black and a bye, 2 nothing, black and white; both have balance 0 and score 2, 3 are closed.
        Check.due("colours of 0", coloursBehind(field, 0), "WBo");
        Check.due("colours of 2", coloursBehind(field, 2), "-BW");
        Check.due("no difference, no clash", field.cost(), 0);
        field.pair();
        Check.due("the latest colour is that of the latest game", field.isWhite(0), true);
        Check.due("the other is black", field.isWhite(2), false);
    }

    /** Balance 0 without a game is balance 0 with no latest colour: neither black nor white. */
    private static void whiteByRoundWhenOneHadNoGame() {
        PairedField even = new PairedField(4);
        Fields.playDrawnRound(even);
        Fields.playDrawnRound(even);
        even.leave(1);
        even.leave(2);
        even.enter();
        even.enter();
        even.apart(0, 3, true);
        Check.due("colours of 0", coloursBehind(even, 0), "WB");
        Check.due("colours of 3", coloursBehind(even, 3), "BW");
        even.pair();
        Check.due("0 plays one with no game", even.opponent(0), 4);
        Check.due("3 plays one with no game", even.opponent(3), 5);
        Check.due("even: the one before, whatever its latest colour", Fields.colours(even), "w--w--");

        PairedField odd = Fields.afterByes(1);
        odd.leave(0);
        for (int p = 2; p < 6; p++) {
            odd.enter();
        }
        Fields.playDrawnRound(odd);
        Fields.playDrawnRound(odd);
        odd.leave(3);
        odd.leave(4);
        odd.enter();
        odd.enter();
        odd.apart(2, 5, true);
        Check.due("colours of 2", coloursBehind(odd, 2), "-BW");
        Check.due("colours of 5", coloursBehind(odd, 5), "-WB");
        odd.pair();
        Check.due("2 plays one with no game", odd.opponent(2), 6);
        Check.due("5 plays one with no game", odd.opponent(5), 7);
        Check.due("odd: the one behind, whatever the other's latest colour", Fields.colours(odd), "------ww");
    }

    private static void whiteByRoundOtherwise() {
        dueGame("none closed, no games", 0, "", 11, "", 0);
        dueGame("odd, both white before", 5, "W", 0, "W", 0);
        dueGame("odd, both black before", 10, "B", 1, "B", 0);
        dueGame("even, both black before", 0, "WB", 2, "WB", 0);
        dueGame("even, both white before", 8, "BW", 11, "BW", 0);
        dueGame("odd, the same thrice", 4, "WBW", 0, "WBW", 0);
        // Scores 1 1 2 0, 0 and 2 both had white: 2 is before 0 in the order.
        PairedField field = new PairedField(4);
        Fields.playRound(field, 0, 1, 2, 2);
        Fields.leaveAllBut(field, 0, 2);
        field.pair();
        Check.due("odd: the one behind in the order has the less number", field.isWhite(0), true);
        Check.due("the one before is black", field.isWhite(2), false);
    }

    // "For each of the two there is a clash when the colour is that of the player's latest two games (in closed
    // rounds, byes not counted), and one when the balance becomes 3 or more, or -3 or less."

    private static void noClashBeforeTwoGames() {
        dueGame("no game before", 0, "", 1, "", 0);
        dueGame("white again after one game", 5, "W", 0, "W", 0);
        dueGame("black again after one game", 10, "B", 1, "B", 0);
    }

    private static void clashOfTheThirdColourInARow() {
        dueGame("white for the third time, balance 1", 7, "BBWW", 11, "BWBW", 1);
        dueGame("black for the third time, balance -1", 0, "WBWB", 5, "WWBB", 1);
    }

    private static void noClashWhenOnlyTheLatestIsTheSame() {
        dueGame("white after black and white, black after white and black", 8, "BW", 11, "BW", 0);
        dueGame("and the other way", 0, "WB", 2, "WB", 0);
        dueGame("other colours after two of the same", 1, "BB", 3, "WW", 0);
        dueGame("other colours after three of the same", 9, "BBB", 3, "WWW", 0);
    }

    private static void clashOfColourAcrossAByeToo() {
        PairedField field = new PairedField(12);
        Fields.playDrawnRound(field);
        Fields.playDrawnRound(field);
        Fields.leaveAllBut(field, 2, 6, 10);
        Fields.playRound(field, 2, 2);
        field.leave(6);
        Check.due("colours of 10, then a bye", coloursBehind(field, 10), "WWo");
        Check.due("colours of 2", coloursBehind(field, 2), "WWW");
        Check.due("score of 10", field.tell(10, 0), 4);
        Check.due("score of 2", field.tell(2, 0), 4);
        Check.due("white for the third time, and balance 3", field.cost(), 2);
        field.pair();
        Check.due("10 is white", field.isWhite(10), true);
    }

    private static void clashOfABalanceOfThree() {
        dueGame("balance 2 becomes 3, after black", 3, "WWWB", 6, "WWBW", 1);
        dueGame("balance -2 becomes -3, after white", 10, "BWBB", 9, "BBBW", 1);
        dueGame("balance 2 becomes 3, with the colour", 3, "WW", 5, "WW", 2);
        dueGame("balance -2 becomes -3, with the colour", 1, "BB", 7, "BB", 2);
    }

    private static void noClashOfABalanceOfTwo() {
        dueGame("balance 1 becomes 2", 5, "W", 0, "W", 0);
        dueGame("balance -1 becomes -2", 10, "B", 1, "B", 0);
        dueGame("balances 3 and -3 become 2 and -2", 9, "BBB", 3, "WWW", 0);
        dueGame("balances 3 and -3 become 2 and -2, later", 9, "BBBWB", 3, "WWWBW", 0);
    }

    private static void clashOfABalanceBeyondThree() {
        dueGame("balance 3 becomes 4", 3, "WWWBW", 2, "WBWWW", 1);
        dueGame("balance -3 becomes -4", 10, "BWBBB", 9, "BBBWB", 1);
    }

    private static void clashOfABalanceThatComesBackToThree() {
        dueGame("balance 4 becomes 3", 1, "BBWBWB", 3, "WWWBWW", 1);
        dueGame("balance -4 becomes -3", 9, "BBBWBB", 0, "WBWBWB", 1);
        dueGame("both", 9, "BBBWBB", 3, "WWWBWW", 2);
    }

    private static void clashesOfBoth() {
        dueGame("white for the third time against black for the first", 7, "BBWW", 2, "WBWW", 1);
        dueGame("two of one, none of the other", 2, "WBWW", 4, "WBWW", 2);
        dueGame("none of one, two of the other", 1, "BBWB", 10, "BWBB", 2);
    }

    // "The pairing is the one with the least sum of costs; of several the one in which the first player in the order
    // (of those that are not having the bye) has the opponent that comes first in the order, of several the first of
    // the others that are left, and so on."

    private static void leastCostBeforeAllElse() {
        PairedField field = new PairedField(8);
        Fields.playDrawnRound(field);
        Fields.playDrawnRound(field);
        Fields.leaveAllBut(field, 1, 2, 5, 6);
        // 2 and 6 had white twice, 1 and 5 black twice: of the ways 1-5 and 2-6 costs 4, the others nothing.
        Check.due("ways", field.ways(), 3);
        Check.due("cost of 1-2 and 5-6", field.cost(), 0);
        field.apart(1, 2, true);
        field.pair();
        Fields.dueOpponents("1-6 and 2-5 for nothing, though 1-5 would come first", field, PairedField.NONE, 6, 5,
                PairedField.NONE, PairedField.NONE, 2, 1);
        field.back();
        field.apart(1, 6, true);
        Check.due("1-5 and 2-6 when nothing else is left", field.cost(), 4);
    }

    private static void firstInTheOrderHasTheFirst() {
        PairedField field = new PairedField(6);
        for (int barred = 1; barred < 5; barred++) {
            field.apart(0, barred, true);
            field.pair();
            Check.due("0 apart from those up to " + barred, field.opponent(0), barred + 1);
            field.back();
        }
        field.apart(0, 5, true);
        Check.throwsElement("0 apart from all", () -> field.pair());
    }

    private static void thenTheNextThatIsLeft() {
        PairedField field = new PairedField(6);
        field.apart(2, 3, true);
        field.pair();
        Fields.dueOpponents("2 apart from 3", field, 1, 0, 4, 5, 2, 3);
        field.back();
        field.apart(2, 4, true);
        field.pair();
        Fields.dueOpponents("2 apart from 3 and 4", field, 1, 0, 5, 4, 3, 2);
        field.back();
        field.apart(2, 5, true);
        // 0-1 would leave nobody for 2.
        field.pair();
        Fields.dueOpponents("2 can only play 0 or 1", field, 2, 3, 0, 1, 5, 4);
        field.back();
        field.apart(0, 2, true);
        field.pair();
        Fields.dueOpponents("2 can only play 1", field, 3, 2, 1, 0, 5, 4);
    }
}
