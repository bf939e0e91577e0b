import java.util.Arrays;

/** Promises 5 to 9, 11 to 14 and 16, and of 'Terms' the rounds: each sentence there that names an edge. */
public final class EdgesOfRoundsTest {
    private static final int LEAST = Integer.MIN_VALUE;
    private static final int GREATEST = Integer.MAX_VALUE;
    private static final int[] NO_PLAYERS_OF_FIVE = {LEAST, -1, 5, 11, 12, 32, GREATEST};

    public static void main(String[] args) {
        gamesOfEachNumber();
        oneRoundIsOpenAtMost();
        sixteenRoundsAtMost();
        noPairingOfNobody();
        noPairingOfThoseWhoMustNotMeet();
        whichExceptionOfPair();

        costWithoutPairing();
        costOfTheOpenRound();
        costWhenSixteenAreClosed();
        costOpensNothing();

        waysFromNoneToAll();
        waysOfOneOrNobody();
        waysAsIfNoneWasOpen();
        waysWhenSixteenAreClosed();

        opponentOrByeOrNone();
        whiteOnlyInAGame();
        opponentAndColourOfNone();
        opponentAndColourWithoutRound();

        missingFromAllToNone();
        missingWithoutRound();
        closeFromFirstToLast();
        closeWithoutRound();
        closeWithAGameUntold();
        closeWithoutGames();

        backFromTheOpenRound();
        backFromClosedRounds();
        backFromNothing();
        whoCameOrWentStays();

        playsNoneToSixteen();
        playsUntilSixteenAreClosed();
        playsUntilNoPairing();
        playsByNumber();
        playsByesAlone();
        playsNoOtherNumber();
        playsNotWhileOpen();
        whichExceptionOfPlay();

        roundsClosedOnly();
        Check.finish("EdgesOfRoundsTest");
    }

    private static PairedField opened(int players) {
        PairedField field = new PairedField(players);
        field.pair();
        return field;
    }

    private static PairedField twoApart() {
        PairedField field = new PairedField(2);
        field.apart(0, 1, true);
        return field;
    }

    private static PairedField twoWhoHaveMet() {
        PairedField field = new PairedField(2);
        field.play(1);
        return field;
    }

    private static PairedField nobodyAfterByes(int byes) {
        PairedField field = Fields.afterByes(byes);
        field.leave(0);
        return field;
    }

    /** Players 0, with so many byes, and 2, with nothing. */
    private static PairedField twoAfterByes(int byes) {
        PairedField field = Fields.afterByes(byes);
        field.enter();
        return field;
    }

    private static PairedField twoApartAfterByes(int byes) {
        PairedField field = twoAfterByes(byes);
        field.apart(0, 2, true);
        return field;
    }

    // Promise 5: "A round is paired, and open: how many games it has. IllegalStateException when one is open, or 16
    // are closed; NoSuchElementException when nobody is in, or those that are can't be paired."

    private static void gamesOfEachNumber() {
        for (int players = 2; players <= 12; players++) {
            PairedField field = new PairedField(players);
            Check.due("games of " + players, field.pair(), players / 2);
            Check.due("open with as many to be told", field.missing(), players / 2);
        }
        PairedField one = new PairedField(2);
        one.leave(0);
        Check.due("games of one", one.pair(), 0);
        Check.due("which is open all the same", one.opponent(1), PairedField.BYE);
    }

    private static void oneRoundIsOpenAtMost() {
        Refused.byState("pair while one is open", () -> opened(4), PairedField::pair);
        Refused.byState("pair while one is open and told", () -> {
            PairedField field = opened(5);
            Fields.tellAll(field, 1);
            return field;
        }, PairedField::pair);
        Refused.byState("pair while one without games is open", () -> {
            PairedField field = Fields.afterByes(2);
            field.pair();
            return field;
        }, PairedField::pair);
        PairedField field = opened(4);
        field.back();
        Check.due("pair when it was taken back", field.pair(), 2);
        Fields.tellAll(field, 1);
        field.close();
        Check.due("pair when it was closed", field.pair(), 2);
    }

    // Terms: "At most 16 ROUNDS are closed; one more may be OPEN."

    private static void sixteenRoundsAtMost() {
        PairedField field = twoAfterByes(15);
        Check.due("pair when 15 are closed", field.pair(), 1);
        field.report(2, 2);
        Check.due("the sixteenth is closed", field.close(), 16);
        Check.due("and had", field.had(15, 2), 16 + 64);
        Check.due("with its score", field.tell(2, 0), 2);
        Refused.byState("pair when 16 are closed", () -> twoAfterByes(16), PairedField::pair);
        Refused.byState("pair when the last of 16 had a game", () -> {
            PairedField full = twoAfterByes(15);
            full.play(1);
            full.enter();
            return full;
        }, PairedField::pair);
        PairedField back = twoAfterByes(16);
        back.back();
        Check.due("pair when one of 16 was taken back", back.pair(), 1);
    }

    private static void noPairingOfNobody() {
        Refused.byElement("pair of nobody", () -> nobodyAfterByes(0), PairedField::pair);
        Refused.byElement("pair of nobody when 15 are closed", () -> nobodyAfterByes(15), PairedField::pair);
        PairedField field = nobodyAfterByes(3);
        field.enter();
        Check.due("pair when one has come", field.pair(), 0);
    }

    private static void noPairingOfThoseWhoMustNotMeet() {
        Refused.byElement("pair of two kept apart", EdgesOfRoundsTest::twoApart, PairedField::pair);
        Refused.byElement("pair of two who have met", EdgesOfRoundsTest::twoWhoHaveMet, PairedField::pair);
        Refused.byElement("pair of four, one of them apart from all", () -> {
            PairedField field = new PairedField(4);
            Fields.keepApartFrom(field, 3, 0, 1, 2);
            return field;
        }, PairedField::pair);
        Refused.byElement("pair of four who have all met", () -> {
            PairedField field = new PairedField(4);
            field.play(3);
            return field;
        }, PairedField::pair);
        // Of three, 2 gets the bye, whoever else could have it.
        Refused.byElement("pair of three, the two without the bye apart", () -> {
            PairedField field = new PairedField(3);
            field.apart(0, 1, true);
            return field;
        }, PairedField::pair);
        PairedField field = twoApart();
        field.apart(1, 0, false);
        Check.due("pair when they are apart no more", field.pair(), 1);
        PairedField met = twoWhoHaveMet();
        met.back();
        Check.due("pair when their game was taken back", met.pair(), 1);
        PairedField oneWay = Fields.allApart(12);
        Fields.letMeet(oneWay, 0, 11, 1, 10, 2, 9, 3, 8, 4, 7, 5, 6);
        Check.due("pair of twelve with one way left", oneWay.pair(), 6);
        Fields.dueOpponents("the one way", oneWay, 11, 10, 9, 8, 7, 6, 5, 4, 3, 2, 1, 0);
    }

    private static void whichExceptionOfPair() {
        Refused.byState("pair: 16 closed before nobody in", () -> nobodyAfterByes(16), PairedField::pair);
        Refused.byState("pair: 16 closed before no pairing", () -> twoApartAfterByes(16), PairedField::pair);
        Refused.byElement("pair: 15 closed, no pairing", () -> twoApartAfterByes(15), PairedField::pair);
    }

    // Promise 6: "The cost of the pairing that pair would make, or of the open round's. NoSuchElementException when
    // no round is open and pair would throw that. (When 16 are closed it is the cost of a pairing all the same.)"

    private static void costWithoutPairing() {
        Refused.byElement("cost of nobody", () -> nobodyAfterByes(0), PairedField::cost);
        Refused.byElement("cost of two apart", EdgesOfRoundsTest::twoApart, PairedField::cost);
        Refused.byElement("cost of two who have met", EdgesOfRoundsTest::twoWhoHaveMet, PairedField::cost);
        Refused.byElement("cost of three, the two without the bye apart", () -> {
            PairedField field = new PairedField(3);
            field.apart(1, 0, true);
            return field;
        }, PairedField::cost);
        Check.due("cost of one, who gets the bye", Fields.afterByes(0).cost(), 0);
        Check.due("cost of two", new PairedField(2).cost(), 0);
    }

    private static void costOfTheOpenRound() {
        PairedField field = new PairedField(2);
        field.pair();
        Check.due("cost of the open round, though its two have met in it", field.cost(), 0);
        field.report(0, 2);
        Check.due("and though it is told", field.cost(), 0);
        PairedField after = twoAfterByes(3);
        Check.due("cost before it is open", after.cost(), 64 * 6 * 6);
        after.pair();
        Check.due("cost while it is open", after.cost(), 64 * 6 * 6);
        after.report(2, 2);
        Check.due("cost by what is so before it", after.cost(), 64 * 6 * 6);
        PairedField bye = Fields.afterByes(1);
        bye.pair();
        Check.due("cost of an open round without games", bye.cost(), 0);
    }

    private static void costWhenSixteenAreClosed() {
        Check.due("cost when 15 are closed", twoAfterByes(15).cost(), 64 * 30 * 30);
        Check.due("cost when 16 are closed", twoAfterByes(16).cost(), 64 * 32 * 32);
        Check.due("cost of one when 16 are closed", Fields.afterByes(16).cost(), 0);
        Refused.byElement("cost when 16 are closed, of nobody", () -> nobodyAfterByes(16), PairedField::cost);
        Refused.byElement("cost when 16 are closed, of two apart", () -> twoApartAfterByes(16), PairedField::cost);
    }

    private static void costOpensNothing() {
        PairedField field = new PairedField(5);
        field.play(1);
        String before = Check.stateOf(field);
        field.cost();
        field.ways();
        Check.throwsState("no round is open after cost and ways", () -> field.missing());
        Check.due("nothing has changed", Check.stateOf(field), before);
    }

    // Promise 7: "In how many ways those that are in, but the one that gets the bye, can be paired now, as if no
    // round was open, whatever the cost; 1 when there are none of them."

    private static void waysFromNoneToAll() {
        int[] ways = {1, 1, 3, 3, 15, 15, 105, 105, 945, 945, 10395};
        for (int players = 2; players <= 12; players++) {
            Check.due("ways of " + players, new PairedField(players).ways(), ways[players - 2]);
        }
        Check.due("ways of two apart", twoApart().ways(), 0);
        Check.due("ways of two who have met", twoWhoHaveMet().ways(), 0);
        PairedField field = Fields.allApart(12);
        Check.due("ways of twelve all apart", field.ways(), 0);
        Fields.letMeet(field, 0, 1, 2, 3, 4, 5, 6, 7, 8, 9, 10, 11);
        Check.due("the last way left of twelve", field.ways(), 1);
        PairedField three = new PairedField(3);
        three.apart(0, 2, true);
        Check.due("the one with the bye is apart from another", three.ways(), 1);
        three.apart(0, 1, true);
        Check.due("those without the bye are apart", three.ways(), 0);
        // 0 has 30 points more than each of the others: that bars no way.
        PairedField dear = twoAfterByes(15);
        dear.enter();
        dear.enter();
        Check.due("whatever the cost", dear.ways(), 3);
    }

    private static void waysOfOneOrNobody() {
        Check.due("ways of one", Fields.afterByes(0).ways(), 1);
        Check.due("ways of nobody", nobodyAfterByes(0).ways(), 1);
        Check.due("ways of nobody after rounds", nobodyAfterByes(5).ways(), 1);
        PairedField field = twoWhoHaveMet();
        field.leave(0);
        Check.due("one of two who have met", field.ways(), 1);
        field.leave(1);
        Check.due("neither of two who have met", field.ways(), 1);
    }

    private static void waysAsIfNoneWasOpen() {
        PairedField field = opened(2);
        Check.due("the open game is none before", field.ways(), 1);
        field.report(0, 1);
        Check.due("told or not", field.ways(), 1);
        field.close();
        Check.due("closed, it is", field.ways(), 0);
        PairedField five = opened(5);
        Check.due("the bye is the same while it is open", five.ways(), 3);
    }

    private static void waysWhenSixteenAreClosed() {
        Check.due("ways of two when 16 are closed", twoAfterByes(16).ways(), 1);
        Check.due("ways of two apart when 16 are closed", twoApartAfterByes(16).ways(), 0);
        Check.due("ways of nobody when 16 are closed", nobodyAfterByes(16).ways(), 1);
    }

    // Promise 8: "The opponent of a player in the open round; BYE; NONE when there is neither.
    // IndexOutOfBoundsException when there is no such player; IllegalStateException when no round is open."

    private static PairedField openedWithByeAndOut() {
        PairedField field = new PairedField(5);
        field.leave(0);
        field.leave(3);
        field.pair();
        return field;
    }

    private static void opponentOrByeOrNone() {
        PairedField field = openedWithByeAndOut();
        Fields.dueOpponents("two out", field, PairedField.NONE, 2, 1, PairedField.NONE, PairedField.BYE);
        PairedField twelve = opened(12);
        Check.due("opponent of the first", twelve.opponent(0), 1);
        Check.due("opponent of the last", twelve.opponent(11), 10);
        Check.due("BYE is no player's number", PairedField.BYE, 12);
        Check.due("NONE is no player's number", PairedField.NONE, -1);
    }

    // Promise 9: "Whether a player is white in the open round. Exceptions as for opponent."

    private static void whiteOnlyInAGame() {
        PairedField field = openedWithByeAndOut();
        Check.due("neither bye nor out is white", Fields.colours(field), "-w---");
        Check.due("of twelve each second", Fields.colours(opened(12)), "w-w-w-w-w-w-");
    }

    private static void opponentAndColourOfNone() {
        for (int none : NO_PLAYERS_OF_FIVE) {
            Refused.byIndex("opponent(" + none + ") of 5", () -> opened(5), field -> field.opponent(none));
            Refused.byIndex("isWhite(" + none + ") of 5", () -> opened(5), field -> field.isWhite(none));
        }
        for (int none : new int[] {-1, 12}) {
            Refused.byIndex("opponent(" + none + ") of 12", () -> opened(12), field -> field.opponent(none));
            Refused.byIndex("isWhite(" + none + ") of 12", () -> opened(12), field -> field.isWhite(none));
        }
        for (int none : NO_PLAYERS_OF_FIVE) {
            Refused.byIndex("opponent(" + none + "): none such before no round", () -> new PairedField(5),
                    field -> field.opponent(none));
            Refused.byIndex("isWhite(" + none + "): none such before no round", () -> new PairedField(5),
                    field -> field.isWhite(none));
        }
    }

    private static void opponentAndColourWithoutRound() {
        for (int p : new int[] {0, 4}) {
            Refused.byState("opponent(" + p + ") at first", () -> new PairedField(5), field -> field.opponent(p));
            Refused.byState("isWhite(" + p + ") at first", () -> new PairedField(5), field -> field.isWhite(p));
        }
        Refused.byState("opponent when it was taken back", () -> {
            PairedField field = opened(5);
            field.back();
            return field;
        }, field -> field.opponent(0));
        Refused.byState("isWhite when it was closed", () -> {
            PairedField field = new PairedField(5);
            field.play(1);
            return field;
        }, field -> field.isWhite(0));
        Refused.byState("opponent when 16 are closed", () -> Fields.afterByes(16), field -> field.opponent(0));
        Refused.byState("isWhite when 16 are closed", () -> Fields.afterByes(16), field -> field.isWhite(0));
    }

    // Promise 11: "How many games of the open round were not told yet. IllegalStateException when no round is open."

    private static void missingFromAllToNone() {
        PairedField field = opened(12);
        for (int game = 0; game < 6; game++) {
            Check.due("missing", field.missing(), 6 - game);
            // Told by the one or by the other, it is one game.
            field.report(2 * game + game % 2, 2);
        }
        Check.due("missing none", field.missing(), 0);
        PairedField bye = Fields.afterByes(0);
        bye.pair();
        Check.due("a bye is no game to be told", bye.missing(), 0);
        PairedField again = opened(4);
        again.report(0, 1);
        again.back();
        again.pair();
        Check.due("paired anew, all are missing", again.missing(), 2);
    }

    private static void missingWithoutRound() {
        Refused.byState("missing at first", () -> new PairedField(2), PairedField::missing);
        Refused.byState("missing when it was closed", EdgesOfRoundsTest::twoWhoHaveMet, PairedField::missing);
        Refused.byState("missing when it was taken back", () -> {
            PairedField field = opened(4);
            field.back();
            return field;
        }, PairedField::missing);
        Refused.byState("missing when 16 are closed", () -> Fields.afterByes(16), PairedField::missing);
    }

    // Promise 12: "The open round is closed: how many are. IllegalStateException when none is open, or a game was not
    // told."

    private static void closeFromFirstToLast() {
        PairedField field = Fields.afterByes(0);
        for (int closed = 1; closed <= 16; closed++) {
            field.pair();
            Check.due("close", field.close(), closed);
            Check.due("rounds", field.rounds(), closed);
        }
        Check.throwsState("no seventeenth", () -> field.pair());
        Check.throwsState("nor to be closed", () -> field.close());
    }

    private static void closeWithoutRound() {
        Refused.byState("close at first", () -> new PairedField(4), PairedField::close);
        Refused.byState("close twice", EdgesOfRoundsTest::twoWhoHaveMet, PairedField::close);
        Refused.byState("close when it was taken back", () -> {
            PairedField field = opened(2);
            field.report(0, 2);
            field.back();
            return field;
        }, PairedField::close);
        Refused.byState("close when 16 are closed", () -> Fields.afterByes(16), PairedField::close);
    }

    private static void closeWithAGameUntold() {
        Refused.byState("close with none told", () -> opened(12), PairedField::close);
        for (int untold = 0; untold < 6; untold++) {
            int game = untold;
            Refused.byState("close with game " + game + " untold", () -> {
                PairedField field = opened(12);
                for (int p = 0; p < 12; p += 2) {
                    if (p != 2 * game) {
                        field.report(p, 0);
                    }
                }
                return field;
            }, PairedField::close);
        }
    }

    private static void closeWithoutGames() {
        PairedField field = Fields.afterByes(0);
        field.pair();
        Check.due("a round with a bye alone is closed at once", field.close(), 1);
        Check.due("and its bye counts", field.tell(0, 0), 2);
    }

    // Promise 13: "The open round is forgotten, with what was told; when none is open, the latest closed one: how
    // many are closed then. IllegalStateException when there is none. (Who came or went since then stays so.)"

    private static void backFromTheOpenRound() {
        PairedField field = new PairedField(5);
        String fresh = Check.stateOf(field);
        field.pair();
        Fields.tellAll(field, 2);
        Check.due("back from the first, told", field.back(), 0);
        Check.due("as at first", Check.stateOf(field), fresh);
        field.pair();
        Check.due("what was told is forgotten", field.missing(), 2);
        Fields.tellAll(field, 0);
        field.close();
        Check.due("and told anew", field.tell(1, 0), 2);
        PairedField last = twoAfterByes(15);
        last.pair();
        Check.due("back from the open sixteenth", last.back(), 15);
        Check.due("the fifteenth stands", last.had(14, 0), 76);
    }

    private static void backFromClosedRounds() {
        PairedField field = Fields.afterByes(16);
        for (int closed = 15; closed >= 0; closed--) {
            Check.due("back", field.back(), closed);
            Check.due("rounds then", field.rounds(), closed);
            Check.due("score then", field.tell(0, 0), 2 * closed);
            int gone = closed;
            Check.throwsIndex("had of a round taken back", () -> field.had(gone, 0));
        }
        Check.throwsState("no more to be taken back", () -> field.back());
        PairedField met = twoWhoHaveMet();
        met.back();
        Check.due("those who had met have not", met.ways(), 1);
        Check.due("and no balance", met.tell(0, 1), 0);
        met.pair();
        Check.due("and no latest colour: the first is white again", Fields.colours(met), "w-");
        // 2 had white twice and 6 too; with the second round taken back white is no clash for either.
        PairedField eight = new PairedField(8);
        Fields.playDrawnRound(eight);
        Fields.playDrawnRound(eight);
        Fields.leaveAllBut(eight, 2, 6);
        Check.due("white for the third time", eight.cost(), 2);
        eight.back();
        Check.due("white for the second time", eight.cost(), 0);
    }

    private static void backFromNothing() {
        Refused.byState("back at first", () -> new PairedField(4), PairedField::back);
        Refused.byState("back when the open one was taken back", () -> {
            PairedField field = opened(4);
            field.back();
            return field;
        }, PairedField::back);
        Refused.byState("back when all were taken back", () -> {
            PairedField field = twoWhoHaveMet();
            field.back();
            return field;
        }, PairedField::back);
    }

    private static void whoCameOrWentStays() {
        PairedField field = new PairedField(4);
        field.play(1);
        field.enter();
        field.leave(0);
        field.apart(1, 2, true);
        field.back();
        Check.due("who came is there", field.players(), 5);
        Check.due("and in", field.isIn(4), true);
        Check.due("who went is out", field.isIn(0), false);
        Check.due("who were kept apart are so", field.apart(1, 2, true), false);
        field.pair();
        Fields.dueOpponents("paired anew without and with them", field, PairedField.NONE, 3, 4, 1, 2);
    }

    // Promise 14: "Rounds are paired, told and closed, n of them, or until one can't be paired (or 16 are closed); in
    // each game the one with the less number wins when their sum is not a multiple of 3, otherwise it is drawn (a
    // round may have a bye and no games): how many rounds were closed. IllegalArgumentException when n is not 0 .. 16;
    // IllegalStateException when a round is open."

    private static void playsNoneToSixteen() {
        for (int n = 0; n <= 16; n++) {
            PairedField field = Fields.afterByes(0);
            Check.due("play(" + n + ")", field.play(n), n);
            Check.due("rounds after it", field.rounds(), n);
        }
        PairedField field = new PairedField(4);
        String before = Check.stateOf(field);
        Check.due("play(0)", field.play(0), 0);
        Check.due("changes nothing", Check.stateOf(field), before);
    }

    private static void playsUntilSixteenAreClosed() {
        PairedField field = Fields.afterByes(15);
        Check.due("play(16) when 15 are closed", field.play(16), 1);
        Check.due("play(1) when 16 are closed", field.play(1), 0);
        Check.due("play(16) when 16 are closed", field.play(16), 0);
        Check.due("play(0) when 16 are closed", field.play(0), 0);
        Check.due("rounds", field.rounds(), 16);
        PairedField some = Fields.afterByes(3);
        Check.due("play(13) when 3 are closed", some.play(13), 13);
        PairedField more = Fields.afterByes(3);
        Check.due("play(14) when 3 are closed", more.play(14), 13);
    }

    private static void playsUntilNoPairing() {
        Check.due("two meet once", new PairedField(2).play(16), 1);
        Check.due("three meet in three rounds", new PairedField(3).play(16), 3);
        Check.due("four meet in three rounds", new PairedField(4).play(4), 3);
        Check.due("two apart", twoApart().play(1), 0);
        Check.due("nobody", nobodyAfterByes(0).play(16), 0);
        PairedField field = new PairedField(4);
        Check.due("as many as there are", field.play(3), 3);
        Check.due("and none beyond", field.play(1), 0);
        Check.throwsState("no round stays open", () -> field.missing());
        Check.due("rounds", field.rounds(), 3);
    }

    private static void playsByNumber() {
        for (int p = 0; p < 12; p++) {
            for (int q = p + 1; q < 12; q++) {
                PairedField field = new PairedField(12);
                Fields.leaveAllBut(field, p, q);
                field.play(1);
                boolean drawn = Arrays.asList(3, 6, 9, 12, 15, 18, 21).contains(p + q);
                String game = "played by " + p + " and " + q;
                Check.due(game + ": the less number", field.tell(p, 0), drawn ? 1 : 2);
                Check.due(game + ": the other", field.tell(q, 0), drawn ? 1 : 0);
            }
        }
        // 2 with no score is behind 0 with 2 in the order and, one round being closed, white: the less number wins.
        PairedField field = twoAfterByes(1);
        field.play(1);
        Check.due("white is the greater number", field.had(1, 2), 16);
        Check.due("the less number won as black", field.had(1, 0), 2 + 64);
    }

    private static void playsByesAlone() {
        PairedField field = Fields.afterByes(0);
        Check.due("rounds with a bye and no games", field.play(2), 2);
        Check.due("count as byes", field.tell(0, 5), 2);
        Check.due("and not as games", field.tell(0, 6), 0);
        PairedField five = new PairedField(5);
        five.play(1);
        Check.due("a bye beside games", five.had(0, 4), 76);
    }

    private static void playsNoOtherNumber() {
        for (int n : new int[] {LEAST, -16, -1, 17, 18, 32, GREATEST}) {
            Refused.byArgument("play(" + n + ")", () -> new PairedField(4), field -> field.play(n));
            Refused.byArgument("play(" + n + ") when 16 are closed", () -> Fields.afterByes(16),
                    field -> field.play(n));
        }
    }

    private static void playsNotWhileOpen() {
        for (int n : new int[] {0, 1, 16}) {
            Refused.byState("play(" + n + ") while open", () -> opened(4), field -> field.play(n));
            Refused.byState("play(" + n + ") while open and told", () -> {
                PairedField field = opened(4);
                Fields.tellAll(field, 0);
                return field;
            }, field -> field.play(n));
        }
    }

    private static void whichExceptionOfPlay() {
        for (int n : new int[] {LEAST, -1, 17, GREATEST}) {
            Refused.byArgument("play(" + n + "): number before open", () -> opened(4), field -> field.play(n));
        }
    }

    // Promise 16: "How many rounds are closed."

    private static void roundsClosedOnly() {
        PairedField field = Fields.afterByes(0);
        Check.due("none at first", field.rounds(), 0);
        field.pair();
        Check.due("an open one is not closed", field.rounds(), 0);
        field.close();
        Check.due("one", field.rounds(), 1);
        field.play(14);
        field.pair();
        Check.due("15, and one open", field.rounds(), 15);
        field.close();
        Check.due("16", field.rounds(), 16);
        field.back();
        Check.due("15 again", field.rounds(), 15);
    }
}
