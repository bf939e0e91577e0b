/** Promises 1 to 4, 15 and 17: who is in the field, and who is kept apart. */
public final class PlayersTest {
    public static void main(String[] args) {
        newObject();
        enter();
        leave();
        apart();
        isIn();
        Check.finish("PlayersTest");
    }

    private static void newObject() {
        int[] asked = {Integer.MIN_VALUE, -1, 0, 1, 2, 3, 7, 11, 12, 13, Integer.MAX_VALUE};
        int[] made = {2, 2, 2, 2, 2, 3, 7, 11, 12, 12, 12};
        int[] ways = {1, 1, 1, 1, 1, 1, 15, 945, 10395, 10395, 10395};
        for (int i = 0; i < asked.length; i++) {
            PairedField field = new PairedField(asked[i]);
            String name = "new(" + asked[i] + ")";
            Check.due(name + ": players", field.players(), made[i]);
            Check.due(name + ": rounds", field.rounds(), 0);
            Check.due(name + ": ways, nobody kept apart", field.ways(), ways[i]);
            for (int p = 0; p < made[i]; p++) {
                Check.due(name + ": isIn " + p, field.isIn(p), true);
                Check.due(name + ": figures " + p, Fields.figures(field, p), "0 0 0 0 0 0 0");
            }
            Check.throwsState(name + ": no round open", () -> field.missing());
            Check.throwsState(name + ": no round to take back", () -> field.back());
        }
    }

    private static void enter() {
        PairedField field = new PairedField(3);
        field.play(1);
        Check.due("enter", field.enter(), 3);
        Check.due("players after enter", field.players(), 4);
        Check.due("the new one is in", field.isIn(3), true);
        Check.due("the new one's figures", Fields.figures(field, 3), "0 0 0 0 0 0 0");
        Check.due("the new one had nothing", field.had(0, 3), PairedField.NONE);
        field.pair();
        Check.throwsState("enter while a round is open", () -> field.enter());
        Check.due("players unchanged", field.players(), 4);
        field.back();
        field.leave(1);
        Check.due("a number that went out is not given again", field.enter(), 4);
        for (int p = 5; p < 12; p++) {
            Check.due("enter to the twelfth", field.enter(), p);
        }
        Check.throwsState("enter beyond 12, one of them out", () -> field.enter());
        Check.due("players at the limit", field.players(), 12);
        enterAfterRoundsTakenBack();
    }

    private static void enterAfterRoundsTakenBack() {
        PairedField field = new PairedField(4);
        field.play(2);
        Check.due("enter", field.enter(), 4);
        field.play(1);
        field.back();
        field.back();
        Check.due("who came stays", field.isIn(4), true);
        Check.due("and had nothing before", field.had(0, 4), PairedField.NONE);
        field.pair();
        Check.due("and is paired anew: a bye, as the last with no score", field.opponent(4), PairedField.BYE);
    }

    private static void leave() {
        PairedField field = new PairedField(4);
        field.play(1);
        field.leave(3);
        Check.due("is out", field.isIn(3), false);
        Check.due("still counted", field.players(), 4);
        Check.due("keeps what it had", field.had(0, 3), 2);
        Check.throwsElement("leave twice", () -> field.leave(3));
        Check.throwsIndex("leave of none, beyond", () -> field.leave(4));
        Check.throwsIndex("leave of none, before", () -> field.leave(-1));
        Check.throwsIndex("leave of none, least", () -> field.leave(Integer.MIN_VALUE));
        field.pair();
        Check.due("who is out has nothing in the round", field.opponent(3), PairedField.NONE);
        Check.due("and no colour", field.isWhite(3), false);
        Check.throwsIndex("none before open", () -> field.leave(4));
        Check.throwsElement("out before open", () -> field.leave(3));
        Check.throwsState("leave while a round is open", () -> field.leave(0));
        Check.due("and nothing came of it", field.isIn(0), true);
        field.back();
        field.back();
        Check.due("out for good, though rounds are taken back", field.isIn(3), false);
        Check.throwsElement("out for good", () -> field.leave(3));
    }

    private static void apart() {
        PairedField field = new PairedField(4);
        Check.due("ways before", field.ways(), 3);
        Check.due("apart", field.apart(0, 1, true), true);
        Check.due("apart again", field.apart(0, 1, true), false);
        Check.due("apart again, the other way round", field.apart(1, 0, true), false);
        Check.due("ways with two apart", field.ways(), 2);
        field.pair();
        Fields.dueOpponents("0 and 1 apart", field, 2, 3, 0, 1);
        Check.throwsIndex("none before same", () -> field.apart(4, 4, true));
        Check.throwsArgument("same before open", () -> field.apart(2, 2, true));
        Check.throwsState("apart while a round is open", () -> field.apart(0, 1, false));
        Check.throwsState("apart while a round is open, no change", () -> field.apart(0, 1, true));
        field.back();
        Check.due("apart still, what threw changed nothing", field.ways(), 2);
        Check.due("no more apart", field.apart(1, 0, false), true);
        Check.due("no more apart, again", field.apart(0, 1, false), false);
        Check.due("ways as before", field.ways(), 3);
        Check.throwsIndex("apart from none", () -> field.apart(0, 4, true));
        Check.throwsIndex("apart of none", () -> field.apart(-1, 0, true));
        Check.throwsIndex("apart of none, greatest", () -> field.apart(Integer.MAX_VALUE, 0, true));
        Check.throwsArgument("apart from itself", () -> field.apart(3, 3, false));
        field.leave(2);
        Check.due("who is out can be kept apart", field.apart(2, 0, true), true);
        Check.due("or no more", field.apart(2, 0, false), true);
        apartAndPlayed();
    }

    private static void apartAndPlayed() {
        PairedField field = new PairedField(2);
        field.play(1);
        Check.due("who have played can be kept apart", field.apart(0, 1, true), true);
        field.back();
        Check.due("that stays when the round is taken back", field.ways(), 0);
        field.apart(0, 1, false);
        Check.due("and ends when it is said", field.ways(), 1);
    }

    private static void isIn() {
        PairedField field = new PairedField(2);
        Check.due("isIn(0)", field.isIn(0), true);
        Check.due("isIn(1)", field.isIn(1), true);
        Check.due("isIn(2)", field.isIn(2), false);
        Check.due("isIn(11)", field.isIn(11), false);
        Check.due("isIn(12)", field.isIn(12), false);
        Check.due("isIn(-1)", field.isIn(-1), false);
        Check.due("isIn(least)", field.isIn(Integer.MIN_VALUE), false);
        Check.due("isIn(greatest)", field.isIn(Integer.MAX_VALUE), false);
    }
}
