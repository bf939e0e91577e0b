import java.util.ArrayList;
import java.util.HashMap;
import java.util.HashSet;
import java.util.List;
import java.util.Map;
import java.util.Set;

/**
 * The document's words in their plainest form, for comparison: every figure is counted anew from the closed rounds, and
 * every pairing there is gets listed. It refuses nothing: whether a call throws is told by the can... methods.
 */
final class Model {
    /** A game of two players, or a bye, when black is -1. */
    static final class Game {
        final int white;
        final int black;
        /** Of the one who is white; -1 when it was not told. */
        int result = -1;

        Game(int white, int black) {
            this.white = white;
            this.black = black;
        }

        boolean isBye() {
            return black < 0;
        }

        boolean has(int p) {
            return white == p || black == p;
        }

        int other(int p) {
            return white == p ? black : white;
        }

        int resultOf(int p) {
            return white == p ? result : 2 - result;
        }
    }

    /** One way to pair: for each game the first and the second in the order, by the first's place in it. */
    static final class Way {
        final List<int[]> pairs;
        final int cost;

        Way(List<int[]> pairs, int cost) {
            this.pairs = pairs;
            this.cost = cost;
        }
    }

    final List<Boolean> in = new ArrayList<>();
    final Set<Integer> apart = new HashSet<>();
    final List<List<Game>> closed = new ArrayList<>();
    List<Game> open = null;
    private int ways;
    private Way best;

    Model(int players) {
        int number = players < 2 ? 2 : players > 12 ? 12 : players;
        for (int i = 0; i < number; i++) {
            in.add(true);
        }
    }

    boolean isPlayer(int p) {
        return p >= 0 && p < in.size();
    }

    List<Game> gamesOf(int p) {
        List<Game> games = new ArrayList<>();
        for (List<Game> round : closed) {
            for (Game game : round) {
                if (game.has(p) && !game.isBye()) {
                    games.add(game);
                }
            }
        }
        return games;
    }

    int byes(int p) {
        int byes = 0;
        for (List<Game> round : closed) {
            for (Game game : round) {
                if (game.isBye() && game.white == p) {
                    byes++;
                }
            }
        }
        return byes;
    }

    int score(int p) {
        int score = 2 * byes(p);
        for (Game game : gamesOf(p)) {
            score += game.resultOf(p);
        }
        return score;
    }

    int balance(int p) {
        int balance = 0;
        for (Game game : gamesOf(p)) {
            balance += game.white == p ? 1 : -1;
        }
        return balance;
    }

    int buchholz(int p) {
        int sum = 0;
        for (Game game : gamesOf(p)) {
            sum += score(game.other(p));
        }
        return sum;
    }

    int berger(int p) {
        int sum = 0;
        for (Game game : gamesOf(p)) {
            int theirs = score(game.other(p));
            if (game.resultOf(p) == 2) {
                sum += 2 * theirs;
            } else if (game.resultOf(p) == 1) {
                sum += theirs;
            }
        }
        return sum;
    }

    int wins(int p) {
        int wins = 0;
        for (Game game : gamesOf(p)) {
            if (game.resultOf(p) == 2) {
                wins++;
            }
        }
        return wins;
    }

    int tell(int p, int what) {
        int[] all = {score(p), balance(p), buchholz(p), berger(p), wins(p), byes(p), gamesOf(p).size()};
        return all[what];
    }

    int had(int r, int p) {
        for (Game game : closed.get(r)) {
            if (game.has(p)) {
                return game.isBye() ? 76 : game.other(p) + (game.white == p ? 16 : 0) + 32 * game.resultOf(p);
            }
        }
        return -1;
    }

    List<Integer> table() {
        Map<Integer, int[]> keys = new HashMap<>();
        List<Integer> players = new ArrayList<>();
        for (int p = 0; p < in.size(); p++) {
            keys.put(p, new int[] {-score(p), -buchholz(p), -berger(p), -wins(p), p});
            players.add(p);
        }
        players.sort((p, q) -> java.util.Arrays.compare(keys.get(p), keys.get(q)));
        return players;
    }

    /** The one that gets the bye, or -1. */
    int byeOfNext() {
        List<Integer> those = new ArrayList<>();
        for (int p = 0; p < in.size(); p++) {
            if (in.get(p)) {
                those.add(p);
            }
        }
        if (those.size() % 2 == 0) {
            return -1;
        }
        those.sort((p, q) -> java.util.Arrays.compare(new int[] {byes(p), score(p), -p},
                new int[] {byes(q), score(q), -q}));
        return those.get(0);
    }

    private List<Integer> toBePaired() {
        int bye = byeOfNext();
        List<Integer> those = new ArrayList<>();
        for (int p = 0; p < in.size(); p++) {
            if (in.get(p) && p != bye) {
                those.add(p);
            }
        }
        those.sort((p, q) -> java.util.Arrays.compare(new int[] {-score(p), p}, new int[] {-score(q), q}));
        return those;
    }

    private boolean mayMeet(int p, int q) {
        for (Game game : gamesOf(p)) {
            if (game.has(q)) {
                return false;
            }
        }
        return !apart.contains(Math.min(p, q) * 100 + Math.max(p, q));
    }

    private String latest(int p) {
        List<Game> games = gamesOf(p);
        return games.isEmpty() ? "" : games.get(games.size() - 1).white == p ? "white" : "black";
    }

    /** Who is white of p and q, p before q in the order. */
    private int whiteOf(int p, int q) {
        if (balance(p) < balance(q)) {
            return p;
        }
        if (balance(q) < balance(p)) {
            return q;
        }
        if (latest(p).equals("black") && latest(q).equals("white")) {
            return p;
        }
        if (latest(q).equals("black") && latest(p).equals("white")) {
            return q;
        }
        return closed.size() % 2 == 0 ? p : q;
    }

    private int clashes(int p, boolean white) {
        int clashes = 0;
        List<Game> games = gamesOf(p);
        int number = games.size();
        if (number >= 2 && (games.get(number - 1).white == p) == white && (games.get(number - 2).white == p) == white) {
            clashes++;
        }
        int balance = balance(p) + (white ? 1 : -1);
        if (balance >= 3 || balance <= -3) {
            clashes++;
        }
        return clashes;
    }

    private int cost(int p, int q) {
        int difference = score(p) - score(q);
        int white = whiteOf(p, q);
        return 64 * difference * difference + clashes(p, white == p) + clashes(q, white == q);
    }

    /** Lists all ways, by the place of the first's opponent, then of the next's: the first of the least cost stays. */
    private void listWays(List<Integer> left, List<int[]> made, int cost, int[][] costs) {
        if (left.isEmpty()) {
            ways++;
            if (best == null || cost < best.cost) {
                best = new Way(new ArrayList<>(made), cost);
            }
            return;
        }
        int p = left.get(0);
        for (int i = 1; i < left.size(); i++) {
            int q = left.get(i);
            if (costs[p][q] >= 0) {
                List<Integer> rest = new ArrayList<>(left);
                rest.remove(i);
                rest.remove(0);
                made.add(new int[] {p, q});
                listWays(rest, made, cost + costs[p][q], costs);
                made.remove(made.size() - 1);
            }
        }
    }

    private void look() {
        ways = 0;
        best = null;
        List<Integer> those = toBePaired();
        int[][] costs = new int[12][12];
        for (int i = 0; i < those.size(); i++) {
            for (int j = i + 1; j < those.size(); j++) {
                int p = those.get(i);
                int q = those.get(j);
                costs[p][q] = mayMeet(p, q) ? cost(p, q) : -1;
            }
        }
        listWays(those, new ArrayList<>(), 0, costs);
    }

    int ways() {
        look();
        return ways;
    }

    /** The least cost, or -1 when there is no pairing. */
    int leastCost() {
        look();
        return best == null || !in.contains(true) ? -1 : best.cost;
    }

    boolean canPair() {
        return leastCost() >= 0;
    }

    void pair() {
        look();
        open = new ArrayList<>();
        for (int[] pair : best.pairs) {
            int white = whiteOf(pair[0], pair[1]);
            open.add(new Game(white, white == pair[0] ? pair[1] : pair[0]));
        }
        if (byeOfNext() >= 0) {
            open.add(new Game(byeOfNext(), -1));
        }
    }

    /** The game or bye of a player in the open round, or null. */
    Game openGame(int p) {
        for (Game game : open) {
            if (game.has(p)) {
                return game;
            }
        }
        return null;
    }

    int missing() {
        int missing = 0;
        for (Game game : open) {
            if (!game.isBye() && game.result < 0) {
                missing++;
            }
        }
        return missing;
    }

    int games() {
        int games = 0;
        for (Game game : open) {
            games += game.isBye() ? 0 : 1;
        }
        return games;
    }

    void close() {
        closed.add(open);
        open = null;
    }

    void back() {
        if (open != null) {
            open = null;
        } else {
            closed.remove(closed.size() - 1);
        }
    }

    int play(int n) {
        int done = 0;
        while (done < n && closed.size() < 16 && canPair()) {
            pair();
            for (Game game : open) {
                if (!game.isBye()) {
                    boolean drawn = (game.white + game.black) % 3 == 0;
                    game.result = drawn ? 1 : game.white < game.black ? 2 : 0;
                }
            }
            close();
            done++;
        }
        return done;
    }
}
