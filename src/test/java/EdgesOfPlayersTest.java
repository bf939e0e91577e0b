/** Promises 1 to 4, 15 and 17, and of 'Terms' who is in: each sentence there that names an edge. */
public final class EdgesOfPlayersTest {
    private static final int LEAST = Integer.MIN_VALUE;
    private static final int GREATEST = Integer.MAX_VALUE;

    public static void main(String[] args) {
        twoWhenLess();
        twelveWhenMore();
        allAreInAtFirst();
        nobodyIsApartAtFirst();
        noRoundAtFirst();

        entersUpToTwelve();
        entersWithNothing();
        noEnteringWhileOpen();
        noEnteringWhenThereAreTwelve();

        leavesFromFirstToLast();
        noLeavingOfNone();
        noLeavingTwice();
        noLeavingWhileOpen();
        whichExceptionOfLeave();
        outForGood();

        apartFromFirstToLast();
        apartTellsWhetherChanged();
        noneKeptApart();
        nobodyApartFromItself();
        notApartWhileOpen();
        whichExceptionOfApart();
        anyTwoPlayersCanBeApart();

        playersInOrOut();
        isInOfNone();
        Check.finish("EdgesOfPlayersTest");
    }

    private static PairedField opened(int players) {
        PairedField field = new PairedField(players);
        field.pair();
        return field;
    }

    private static PairedField openedWithOneOut(int players, int out) {
        PairedField field = new PairedField(players);
        field.leave(out);
        field.pair();
        return field;
    }

    private static PairedField openedWithTwoApart(int players, int p, int q) {
        PairedField field = new PairedField(players);
        field.apart(p, q, true);
        field.pair();
        return field;
    }

    // Promise 1: "So many players, but 2 when it is less and 12 when it is more; all are in, nobody is kept apart,
    // no round was closed."

    private static void twoWhenLess() {
        for (int asked : new int[] {LEAST, LEAST + 1, -13, -2, -1, 0, 1, 2}) {
            Check.due("new(" + asked + ").players()", new PairedField(asked).players(), 2);
        }
        Check.due("new(3).players()", new PairedField(3).players(), 3);
    }

    private static void twelveWhenMore() {
        for (int asked = 2; asked <= 12; asked++) {
            Check.due("new(" + asked + ").players()", new PairedField(asked).players(), asked);
        }
        for (int asked : new int[] {13, 14, 16, 32, GREATEST - 1, GREATEST}) {
            Check.due("new(" + asked + ").players()", new PairedField(asked).players(), 12);
        }
    }

    private static void allAreInAtFirst() {
        for (int players = 2; players <= 12; players++) {
            PairedField field = new PairedField(players);
            for (int p = 0; p < players; p++) {
                Check.due("new(" + players + ").isIn(" + p + ")", field.isIn(p), true);
            }
            Check.due("new(" + players + ").isIn(" + players + ")", field.isIn(players), false);
        }
        Check.due("of none asked for both are in", new PairedField(0).isIn(1), true);
        Check.due("of 13 asked for the twelfth is in", new PairedField(13).isIn(11), true);
    }

    private static void nobodyIsApartAtFirst() {
        PairedField field = new PairedField(12);
        for (int p = 0; p < 12; p++) {
            for (int q = p + 1; q < 12; q++) {
                Check.due("apart(" + p + ", " + q + ", false) at first", field.apart(p, q, false), false);
            }
        }
        Check.due("all ways of 12", field.ways(), 10395);
    }

    private static void noRoundAtFirst() {
        for (int players : new int[] {LEAST, 2, 7, 12, GREATEST}) {
            PairedField field = new PairedField(players);
            Check.due("rounds at first", field.rounds(), 0);
            Check.throwsIndex("no round was closed", () -> field.had(0, 0));
            Check.throwsState("none is open", () -> field.missing());
            Check.throwsState("none is to be taken back", () -> field.back());
        }
    }

    // Promise 2: "A player more comes in (score 0): the number. IllegalStateException when a round is open, or there
    // are 12."

    private static void entersUpToTwelve() {
        PairedField field = new PairedField(2);
        for (int p = 2; p < 12; p++) {
            Check.due("is in before enter: " + p, field.isIn(p), false);
            Check.due("enter, the " + p + "th number", field.enter(), p);
            Check.due("is in after enter: " + p, field.isIn(p), true);
            Check.due("players after enter", field.players(), p + 1);
        }
        Check.due("all 12 are paired", field.pair(), 6);
        PairedField eleven = new PairedField(11);
        Check.due("one place is left", eleven.enter(), 11);
    }

    private static void entersWithNothing() {
        PairedField field = new PairedField(3);
        field.play(3);
        Check.due("enter after rounds", field.enter(), 3);
        Check.due("score 0 and all else", Fields.figures(field, 3), "0 0 0 0 0 0 0");
        for (int r = 0; r < 3; r++) {
            Check.due("had nothing in round " + r, field.had(r, 3), PairedField.NONE);
        }
        Check.due("last in the table", field.table(3), 3);
        Check.due("kept apart from nobody", field.apart(0, 3, false), false);
        // Rounds that were played by 11 and taken back leave nothing behind for the twelfth.
        PairedField again = new PairedField(11);
        again.play(2);
        again.back();
        again.back();
        Check.due("enter after rounds taken back", again.enter(), 11);
        Check.due("with nothing of them", Fields.figures(again, 11), "0 0 0 0 0 0 0");
    }

    private static void noEnteringWhileOpen() {
        Refused.byState("enter while the first round is open", () -> opened(2), PairedField::enter);
        Refused.byState("enter while a later round is open", () -> {
            PairedField field = new PairedField(5);
            field.play(2);
            field.pair();
            return field;
        }, PairedField::enter);
        Refused.byState("enter while an open round is told", () -> {
            PairedField field = opened(4);
            Fields.tellAll(field, 2);
            return field;
        }, PairedField::enter);
        PairedField field = opened(2);
        field.back();
        Check.due("enter when it was taken back", field.enter(), 2);
        field.pair();
        Fields.tellAll(field, 2);
        field.close();
        Check.due("enter when it was closed", field.enter(), 3);
    }

    private static void noEnteringWhenThereAreTwelve() {
        Refused.byState("enter when there are 12", () -> new PairedField(12), PairedField::enter);
        Refused.byState("enter when there are 12 and a round is open", () -> opened(12), PairedField::enter);
        Refused.byState("enter when 12 have come", () -> {
            PairedField field = new PairedField(11);
            field.enter();
            return field;
        }, PairedField::enter);
        Refused.byState("enter when of 12 one is out", () -> {
            PairedField field = new PairedField(12);
            field.leave(11);
            return field;
        }, PairedField::enter);
        Refused.byState("enter when of 12 all are out", () -> {
            PairedField field = new PairedField(12);
            Fields.leaveAllBut(field);
            return field;
        }, PairedField::enter);
    }

    // Promise 3: "A player goes out. IndexOutOfBoundsException when there is none such; NoSuchElementException when
    // it is out; IllegalStateException when a round is open."

    private static void leavesFromFirstToLast() {
        PairedField field = new PairedField(12);
        for (int p : new int[] {0, 11, 5}) {
            field.leave(p);
            Check.due("out is " + p, field.isIn(p), false);
        }
        Check.due("nine are left: four games", field.pair(), 4);
        field.back();
        Fields.leaveAllBut(field);
        for (int p = 0; p < 12; p++) {
            Check.due("even the last can go: " + p, field.isIn(p), false);
        }
    }

    private static void noLeavingOfNone() {
        for (int none : new int[] {LEAST, -1, 4, 11, 12, 32, GREATEST}) {
            Refused.byIndex("leave(" + none + ") of 4", () -> new PairedField(4), field -> field.leave(none));
        }
        for (int none : new int[] {-1, 12}) {
            Refused.byIndex("leave(" + none + ") of 12", () -> new PairedField(12), field -> field.leave(none));
        }
    }

    private static void noLeavingTwice() {
        for (int p : new int[] {0, 3}) {
            Refused.byElement("leave(" + p + ") twice", () -> {
                PairedField field = new PairedField(4);
                field.leave(p);
                return field;
            }, field -> field.leave(p));
        }
        Refused.byElement("leave of one who is out after a round taken back", () -> {
            PairedField field = new PairedField(4);
            field.play(1);
            field.leave(2);
            field.back();
            return field;
        }, field -> field.leave(2));
    }

    private static void noLeavingWhileOpen() {
        for (int p : new int[] {0, 2}) {
            Refused.byState("leave(" + p + ") while a round is open", () -> opened(3), field -> field.leave(p));
        }
        Refused.byState("leave while an open round is told", () -> {
            PairedField field = opened(2);
            field.report(0, 1);
            return field;
        }, field -> field.leave(0));
        PairedField field = opened(3);
        field.back();
        field.leave(0);
        Check.due("leave when it was taken back", field.isIn(0), false);
    }

    private static void whichExceptionOfLeave() {
        for (int none : new int[] {LEAST, -1, 3, 12, GREATEST}) {
            Refused.byIndex("leave(" + none + "): none such before open", () -> opened(3), field -> field.leave(none));
        }
        Refused.byElement("leave: out before open", () -> openedWithOneOut(4, 2), field -> field.leave(2));
        Refused.byState("leave: in, and open", () -> openedWithOneOut(4, 2), field -> field.leave(3));
    }

    // Terms: "each is IN or OUT (for good)".

    private static void outForGood() {
        PairedField field = new PairedField(3);
        field.leave(2);
        Check.due("who comes gets another number", field.enter(), 3);
        Check.due("who went stays out", field.isIn(2), false);
        field.play(1);
        field.leave(1);
        field.back();
        Check.due("out though the round before is taken back", field.isIn(1), false);
        Check.due("and not paired", field.pair(), 1);
        Fields.dueOpponents("those that are in", field, 3, PairedField.NONE, PairedField.NONE, 0);
    }

    // Promise 4: "Two players are kept apart from now on, or no more: whether that was changed.
    // IndexOutOfBoundsException when one of them is none; IllegalArgumentException when they are the same;
    // IllegalStateException when a round is open."

    private static void apartFromFirstToLast() {
        for (int players : new int[] {2, 7, 12}) {
            PairedField field = new PairedField(players);
            int last = players - 1;
            Check.due("apart(0, " + last + ", true)", field.apart(0, last, true), true);
            Check.due("apart(" + last + ", 0, false)", field.apart(last, 0, false), true);
            Check.due("apart(" + (last - 1) + ", " + last + ", true)", field.apart(last - 1, last, true), true);
        }
    }

    private static void apartTellsWhetherChanged() {
        PairedField field = new PairedField(4);
        Check.due("no more, but they never were", field.apart(1, 3, false), false);
        Check.due("apart", field.apart(1, 3, true), true);
        Check.due("ways without it", field.ways(), 2);
        Check.due("apart again", field.apart(1, 3, true), false);
        Check.due("apart again, turned round", field.apart(3, 1, true), false);
        Check.due("others are not", field.apart(0, 2, false), false);
        Check.due("said thrice, taken back once", field.apart(3, 1, false), true);
        Check.due("ways with it", field.ways(), 3);
        Check.due("no more again", field.apart(1, 3, false), false);
    }

    private static void noneKeptApart() {
        for (int none : new int[] {LEAST, -1, 4, 12, 32, GREATEST}) {
            for (boolean yes : new boolean[] {true, false}) {
                String rest = ", " + yes + ")";
                Refused.byIndex("apart(" + none + ", 0" + rest, () -> new PairedField(4),
                        field -> field.apart(none, 0, yes));
                Refused.byIndex("apart(3, " + none + rest, () -> new PairedField(4),
                        field -> field.apart(3, none, yes));
                Refused.byIndex("apart(-1, " + none + rest, () -> new PairedField(4),
                        field -> field.apart(-1, none, yes));
            }
        }
        Refused.byIndex("apart(0, 12, true) of 12", () -> new PairedField(12), field -> field.apart(0, 12, true));
    }

    private static void nobodyApartFromItself() {
        for (int p : new int[] {0, 3}) {
            for (boolean yes : new boolean[] {true, false}) {
                Refused.byArgument("apart(" + p + ", " + p + ", " + yes + ")", () -> new PairedField(4),
                        field -> field.apart(p, p, yes));
            }
        }
    }

    private static void notApartWhileOpen() {
        Refused.byState("apart while open", () -> opened(4), field -> field.apart(0, 3, true));
        Refused.byState("apart of opponents while open", () -> opened(4), field -> field.apart(0, 1, true));
        Refused.byState("no more apart while open", () -> openedWithTwoApart(4, 0, 1),
                field -> field.apart(0, 1, false));
        Refused.byState("apart as before while open", () -> openedWithTwoApart(4, 0, 1),
                field -> field.apart(0, 1, true));
        Refused.byState("not apart as before while open", () -> opened(4), field -> field.apart(0, 1, false));
        PairedField field = opened(4);
        field.back();
        Check.due("apart when it was taken back", field.apart(0, 1, true), true);
    }

    private static void whichExceptionOfApart() {
        for (int none : new int[] {LEAST, -1, 4, 12, GREATEST}) {
            Refused.byIndex("apart of " + none + " twice: none before same", () -> new PairedField(4),
                    field -> field.apart(none, none, true));
            Refused.byIndex("apart of " + none + " twice: none before same and open", () -> opened(4),
                    field -> field.apart(none, none, true));
            Refused.byIndex("apart(" + none + ", 0): none before open", () -> opened(4),
                    field -> field.apart(none, 0, true));
            Refused.byIndex("apart(0, " + none + "): none before open", () -> opened(4),
                    field -> field.apart(0, none, false));
        }
        Refused.byArgument("apart: same before open", () -> opened(4), field -> field.apart(2, 2, true));
    }

    private static void anyTwoPlayersCanBeApart() {
        PairedField field = new PairedField(4);
        field.play(1);
        Check.due("two who have met", field.apart(0, 1, true), true);
        field.leave(3);
        Check.due("one who is out", field.apart(3, 0, true), true);
        field.leave(2);
        Check.due("two who are out", field.apart(2, 3, true), true);
        field.back();
        Check.due("that stays when a round is taken back", field.apart(0, 1, true), false);
        Check.due("of the two that are in", field.ways(), 0);
    }

    // Promise 15: "How many players there are, in or out."

    private static void playersInOrOut() {
        PairedField field = new PairedField(2);
        field.leave(0);
        Check.due("one out", field.players(), 2);
        field.leave(1);
        Check.due("all out", field.players(), 2);
        field.enter();
        Check.due("one more", field.players(), 3);
        field.play(2);
        field.pair();
        Check.due("while open", field.players(), 3);
        field.back();
        field.back();
        field.back();
        Check.due("who came stays when rounds are taken back", field.players(), 3);
    }

    // Promise 17: "Whether a player is in; false when there is none such."

    private static void isInOfNone() {
        for (int players : new int[] {2, 7, 12}) {
            PairedField field = new PairedField(players);
            Check.due("first of " + players, field.isIn(0), true);
            Check.due("last of " + players, field.isIn(players - 1), true);
            for (int none : new int[] {LEAST, -12, -1, players, 12, 13, 16, 31, 32, 64, GREATEST}) {
                Check.due("isIn(" + none + ") of " + players, field.isIn(none), false);
            }
        }
        PairedField field = opened(3);
        Check.due("one with a bye is in", field.isIn(2), true);
        field.back();
        field.leave(0);
        Check.due("one who is out", field.isIn(0), false);
    }
}
