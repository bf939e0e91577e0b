import java.util.Random;

/** Runs of calls by chance, the same every time, answered as the model answers them. All promises. */
public final class ModelTest {
    private static final int RUNS = 1500;
    /** The document promises nothing of an object after its 512th call. */
    private static final int MOST_CALLS = 512;
    /** Kept for the questions at the end of a run. */
    private static final int LAST_CALLS = 150;
    private static final int STATE = -1001;
    private static final int ARGUMENT = -1002;
    private static final int INDEX = -1003;
    private static final int ELEMENT = -1004;

    private interface Call {
        int run();
    }

    private final Random random;
    private final String name;
    private final PairedField field;
    private final Model model;
    /** How likely the calls of this run are to change who is in or kept apart, of 100. */
    private final int unrest;
    /** How many of 10 such calls let a player go out. */
    private final int leaving;
    /** What the one who is white gets in most games, or any result when it is 3. */
    private final int trend;
    private int calls = 0;

    private ModelTest(int run) {
        random = new Random(run);
        name = "run " + run;
        int players = random.nextInt(16) - 1;
        field = new PairedField(players);
        model = new Model(players);
        unrest = random.nextInt(4) * 8;
        leaving = random.nextInt(5) == 0 ? 5 : 1;
        trend = random.nextInt(4);
    }

    public static void main(String[] args) {
        for (int run = 0; run < RUNS && Check.isClean(); run++) {
            new ModelTest(run).go();
        }
        Check.finish("ModelTest");
    }

    private void go() {
        while (calls < MOST_CALLS - LAST_CALLS && Check.isClean()) {
            change();
            askSome();
        }
        askLast();
        Check.due(name + " stays within the calls of the document", calls <= MOST_CALLS, true);
    }

    private void due(String call, Call got, int want) {
        calls++;
        Check.due(name + ", call " + calls + ": " + call, answer(got), want);
    }

    private static int answer(Call call) {
        try {
            return call.run();
        } catch (IllegalStateException e) {
            return STATE;
        } catch (IndexOutOfBoundsException e) {
            return INDEX;
        } catch (java.util.NoSuchElementException e) {
            return ELEMENT;
        } catch (IllegalArgumentException e) {
            return ARGUMENT;
        }
    }

    private int somePlayer() {
        return random.nextInt(20) == 0 ? random.nextInt(16) - 2 : random.nextInt(model.in.size());
    }

    private void change() {
        if (random.nextInt(100) < unrest) {
            changePlayers();
        } else if (model.open != null) {
            changeOpenRound();
        } else if (random.nextInt(8) == 0) {
            back();
        } else if (random.nextInt(5) == 0) {
            play();
        } else {
            pair();
        }
    }

    private void changePlayers() {
        int what = random.nextInt(10);
        if (what < leaving) {
            leave(somePlayer());
        } else if (what < leaving + 3) {
            enter();
        } else {
            apart(somePlayer(), somePlayer(), random.nextInt(3) > 0);
        }
    }

    private void changeOpenRound() {
        int what = random.nextInt(40);
        if (what == 0) {
            back();
        } else if (what == 1) {
            pair();
        } else if (what == 2) {
            play();
        } else if (what < 10) {
            close();
        } else if (what < 15) {
            report(somePlayer(), random.nextInt(5) - 1);
        } else {
            reportAll();
            close();
        }
    }

    private void enter() {
        boolean can = model.open == null && model.in.size() < 12;
        due("enter()", () -> field.enter(), can ? model.in.size() : STATE);
        if (can) {
            model.in.add(true);
        }
    }

    private void leave(int p) {
        int want = !model.isPlayer(p) ? INDEX : !model.in.get(p) ? ELEMENT : model.open != null ? STATE : 0;
        due("leave(" + p + ")", () -> {
            field.leave(p);
            return 0;
        }, want);
        if (want == 0) {
            model.in.set(p, false);
        }
    }

    private void apart(int p, int q, boolean yes) {
        int key = Math.min(p, q) * 100 + Math.max(p, q);
        int want = !model.isPlayer(p) || !model.isPlayer(q) ? INDEX : p == q ? ARGUMENT : model.open != null ? STATE
                : model.apart.contains(key) == yes ? 0 : 1;
        due("apart(" + p + ", " + q + ", " + yes + ")", () -> field.apart(p, q, yes) ? 1 : 0, want);
        if (want == 1 && yes) {
            model.apart.add(key);
        } else if (want == 1) {
            model.apart.remove(key);
        }
    }

    private void pair() {
        int want = model.open != null || model.closed.size() == 16 ? STATE : model.canPair() ? 0 : ELEMENT;
        if (want == 0) {
            model.pair();
            want = model.games();
        }
        due("pair()", () -> field.pair(), want);
    }

    private void report(int p, int result) {
        int want = !model.isPlayer(p) ? INDEX : result < 0 || result > 2 ? ARGUMENT : canReport(p) ? 0 : STATE;
        due("report(" + p + ", " + result + ")", () -> {
            field.report(p, result);
            return 0;
        }, want);
        if (want == 0) {
            Model.Game game = model.openGame(p);
            game.result = game.white == p ? result : 2 - result;
        }
    }

    private boolean canReport(int p) {
        Model.Game game = model.open == null ? null : model.openGame(p);
        return game != null && !game.isBye() && game.result < 0;
    }

    private void reportAll() {
        for (int p = 0; p < model.in.size(); p++) {
            if (canReport(p)) {
                // Results alike keep the scores together, so that colours and the order decide.
                boolean alike = trend < 3 && random.nextInt(8) > 0;
                int ofWhite = alike ? trend : random.nextInt(3);
                report(p, model.openGame(p).white == p ? ofWhite : 2 - ofWhite);
            }
        }
    }

    private void close() {
        int want = model.open == null || model.missing() > 0 ? STATE : model.closed.size() + 1;
        due("close()", () -> field.close(), want);
        if (want != STATE) {
            model.close();
        }
    }

    private void back() {
        boolean can = model.open != null || !model.closed.isEmpty();
        if (can) {
            model.back();
        }
        due("back()", () -> field.back(), can ? model.closed.size() : STATE);
    }

    private void play() {
        int n = random.nextInt(10) == 0 ? random.nextInt(40) - 12 : random.nextInt(4);
        int want = n < 0 || n > 16 ? ARGUMENT : model.open != null ? STATE : model.play(n);
        due("play(" + n + ")", () -> field.play(n), want);
    }

    private void askSome() {
        switch (random.nextInt(4)) {
            case 0:
                askField();
                break;
            case 1:
                askPlayer(somePlayer());
                break;
            case 2:
                askFigure(somePlayer(), random.nextInt(9) - 1);
                askPlace(random.nextInt(model.in.size() + 2) - 1);
                break;
            default:
                askHad(random.nextInt(model.closed.size() + 2) - 1, somePlayer());
                break;
        }
    }

    private void askLast() {
        askField();
        for (int p = 0; p < model.in.size(); p++) {
            askPlace(p);
            askPlayer(p);
            askFigure(p, random.nextInt(7));
            askFigure(p, random.nextInt(7));
            for (int r = 0; r < model.closed.size(); r += 1 + random.nextInt(6)) {
                askHad(r, p);
            }
        }
    }

    private void askField() {
        int cost = model.leastCost();
        due("cost()", () -> field.cost(), cost < 0 ? ELEMENT : cost);
        due("ways()", () -> field.ways(), model.ways());
        due("players()", () -> field.players(), model.in.size());
        due("rounds()", () -> field.rounds(), model.closed.size());
        due("missing()", () -> field.missing(), model.open == null ? STATE : model.missing());
    }

    private void askPlayer(int p) {
        boolean is = model.isPlayer(p);
        due("isIn(" + p + ")", () -> field.isIn(p) ? 1 : 0, is && model.in.get(p) ? 1 : 0);
        int opponent = INDEX;
        int white = INDEX;
        if (is && model.open == null) {
            opponent = STATE;
            white = STATE;
        } else if (is) {
            Model.Game game = model.openGame(p);
            opponent = game == null ? -1 : game.isBye() ? 12 : game.other(p);
            white = game != null && !game.isBye() && game.white == p ? 1 : 0;
        }
        due("opponent(" + p + ")", () -> field.opponent(p), opponent);
        due("isWhite(" + p + ")", () -> field.isWhite(p) ? 1 : 0, white);
    }

    private void askFigure(int p, int what) {
        boolean is = model.isPlayer(p) && what >= 0 && what < 7;
        due("tell(" + p + ", " + what + ")", () -> field.tell(p, what), is ? model.tell(p, what) : INDEX);
    }

    private void askHad(int r, int p) {
        boolean is = model.isPlayer(p) && r >= 0 && r < model.closed.size();
        due("had(" + r + ", " + p + ")", () -> field.had(r, p), is ? model.had(r, p) : INDEX);
    }

    private void askPlace(int place) {
        boolean is = place >= 0 && place < model.in.size();
        due("table(" + place + ")", () -> field.table(place), is ? model.table().get(place) : INDEX);
    }
}
