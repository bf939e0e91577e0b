import java.util.Arrays;
import java.util.NoSuchElementException;

/** A field of players, paired round by round by scores and colours. */
public final class PairedField {
    public static final int NONE = -1;
    public static final int BYE = 12;

    private static final int LEAST_PLAYERS = 2;
    private static final int MOST_PLAYERS = 12;
    private static final int MOST_ROUNDS = 16;

    /** What each player had in each round, as Cell writes it; the open round's row is the one at closedRounds. */
    private final int[][] cells = new int[MOST_ROUNDS][MOST_PLAYERS];
    private final boolean[] present = new boolean[MOST_PLAYERS];
    /** For each player a bit for each other from whom it is kept apart. */
    private final int[] apartFrom = new int[MOST_PLAYERS];
    private final Standing standing = new Standing();
    private final Pairing pairing = new Pairing();
    private int playerCount;
    private int closedRounds;
    private boolean open;

    public PairedField(int players) {
        playerCount = Math.max(LEAST_PLAYERS, Math.min(MOST_PLAYERS, players));
        for (int p = 0; p < playerCount; p++) {
            present[p] = true;
        }
    }

    public int enter() throws IllegalStateException {
        refuseOpenRound();
        if (playerCount == MOST_PLAYERS) {
            throw new IllegalStateException("the field is full");
        }
        present[playerCount] = true;
        playerCount++;
        return playerCount - 1;
    }

    public void leave(int p) throws IndexOutOfBoundsException, NoSuchElementException, IllegalStateException {
        refuseNoPlayer(p);
        if (!present[p]) {
            throw new NoSuchElementException("the player is out");
        }
        refuseOpenRound();
        present[p] = false;
    }

    public boolean apart(int p, int q, boolean yes)
            throws IndexOutOfBoundsException, IllegalArgumentException, IllegalStateException {
        refuseNoPlayer(p);
        refuseNoPlayer(q);
        if (p == q) {
            throw new IllegalArgumentException("the players are the same");
        }
        refuseOpenRound();
        boolean was = (apartFrom[p] >> q & 1) == 1;
        if (was == yes) {
            return false;
        }
        apartFrom[p] ^= 1 << q;
        apartFrom[q] ^= 1 << p;
        return true;
    }

    public int pair() throws IllegalStateException, NoSuchElementException {
        refuseOpenRound();
        if (closedRounds == MOST_ROUNDS) {
            throw new IllegalStateException("all rounds are closed");
        }
        if (!openNextRound()) {
            throw new NoSuchElementException("no pairing");
        }
        return pairing.games();
    }

    // While a round is open nothing changes that its pairing was made by, so cost and ways look anew either way.

    public int cost() throws NoSuchElementException {
        workOutPairing();
        if (!pairing.isPossible()) {
            throw new NoSuchElementException("no pairing");
        }
        return pairing.leastCost();
    }

    public int ways() {
        workOutPairing();
        return pairing.count();
    }

    public int opponent(int p) throws IndexOutOfBoundsException, IllegalStateException {
        refuseNoPlayer(p);
        refuseNoRound();
        int cell = cells[closedRounds][p];
        return cell == NONE ? NONE : Cell.opponentIn(cell);
    }

    public boolean isWhite(int p) throws IndexOutOfBoundsException, IllegalStateException {
        refuseNoPlayer(p);
        refuseNoRound();
        int cell = cells[closedRounds][p];
        return Cell.isGame(cell) && Cell.colourIn(cell) == Cell.WHITE;
    }

    public void report(int p, int result)
            throws IndexOutOfBoundsException, IllegalArgumentException, IllegalStateException {
        refuseNoPlayer(p);
        if (result < Cell.LOST || result > Cell.WON) {
            throw new IllegalArgumentException("no such result");
        }
        refuseNoRound();
        if (!Cell.isUntold(cells[closedRounds][p])) {
            throw new IllegalStateException("no game to be told");
        }
        noteResult(p, result);
    }

    public int missing() throws IllegalStateException {
        refuseNoRound();
        return countUntold();
    }

    public int close() throws IllegalStateException {
        refuseNoRound();
        if (countUntold() > 0) {
            throw new IllegalStateException("a game was not told");
        }
        closeRound();
        return closedRounds;
    }

    public int back() throws IllegalStateException {
        if (open) {
            open = false;
            return closedRounds;
        }
        if (closedRounds == 0) {
            throw new IllegalStateException("there is no round");
        }
        closedRounds--;
        standing.recount(cells, closedRounds);
        return closedRounds;
    }

    public int play(int n) throws IllegalArgumentException, IllegalStateException {
        if (n < 0 || n > MOST_ROUNDS) {
            throw new IllegalArgumentException("no such number of rounds");
        }
        refuseOpenRound();
        int done = 0;
        while (done < n && closedRounds < MOST_ROUNDS && openNextRound()) {
            noteResultsByNumber();
            closeRound();
            done++;
        }
        return done;
    }

    public int players() {
        return playerCount;
    }

    public int rounds() {
        return closedRounds;
    }

    public boolean isIn(int p) {
        return isPlayer(p) && present[p];
    }

    public int tell(int p, int what) throws IndexOutOfBoundsException {
        refuseNoPlayer(p);
        switch (what) {
            case 0:
                return standing.score[p];
            case 1:
                return standing.balance[p];
            case 2:
                return standing.buchholz[p];
            case 3:
                return standing.berger[p];
            case 4:
                return standing.wins[p];
            case 5:
                return standing.byes[p];
            case 6:
                return standing.games[p];
            default:
                throw new IndexOutOfBoundsException("nothing such to tell");
        }
    }

    public int had(int r, int p) throws IndexOutOfBoundsException {
        refuseNoPlayer(p);
        if (r < 0 || r >= closedRounds) {
            throw new IndexOutOfBoundsException("no such round");
        }
        return cells[r][p];
    }

    public int table(int place) throws IndexOutOfBoundsException {
        if (place < 0 || place >= playerCount) {
            throw new IndexOutOfBoundsException("no such place");
        }
        return standing.playerAt(place, playerCount);
    }

    private boolean isPlayer(int p) {
        return p >= 0 && p < playerCount;
    }

    private void refuseNoPlayer(int p) {
        if (!isPlayer(p)) {
            throw new IndexOutOfBoundsException("no such player");
        }
    }

    private void refuseOpenRound() {
        if (open) {
            throw new IllegalStateException("a round is open");
        }
    }

    private void refuseNoRound() {
        if (!open) {
            throw new IllegalStateException("no round is open");
        }
    }

    private void workOutPairing() {
        pairing.workOut(standing, present, apartFrom, closedRounds);
    }

    private boolean openNextRound() {
        workOutPairing();
        if (!pairing.isPossible()) {
            return false;
        }
        pairing.writeTo(cells[closedRounds], standing, closedRounds);
        open = true;
        return true;
    }

    private void closeRound() {
        open = false;
        closedRounds++;
        standing.recount(cells, closedRounds);
    }

    private void noteResult(int p, int result) {
        int[] row = cells[closedRounds];
        int other = Cell.opponentIn(row[p]);
        row[p] = Cell.withResult(row[p], result);
        row[other] = Cell.withResult(row[other], Cell.WON - result);
    }

    private void noteResultsByNumber() {
        int[] row = cells[closedRounds];
        for (int p = 0; p < playerCount; p++) {
            // A game is met first at the lesser number of its two: told there, it is no more untold at the other.
            if (Cell.isUntold(row[p])) {
                boolean drawn = (p + Cell.opponentIn(row[p])) % 3 == 0;
                noteResult(p, drawn ? Cell.DRAWN : Cell.WON);
            }
        }
    }

    private int countUntold() {
        int untold = 0;
        for (int p = 0; p < playerCount; p++) {
            int cell = cells[closedRounds][p];
            if (Cell.isUntold(cell) && Cell.colourIn(cell) == Cell.WHITE) {
                untold++;
            }
        }
        return untold;
    }

    /** What a player had in a round, in one number: the form that had answers, or with UNTOLD for a result. */
    private static final class Cell {
        static final int WHITE = 1;
        static final int BLACK = -1;

        static final int LOST = 0;
        static final int DRAWN = 1;
        static final int WON = 2;
        static final int UNTOLD = 3;

        static final int OPPONENT_BITS = 15;
        static final int WHITE_BIT = 16;
        static final int RESULT_SHIFT = 5;
        static final int OF_BYE = BYE + (WON << RESULT_SHIFT);

        static int untoldGame(int opponent, int colour) {
            return withResult(opponent + (colour == WHITE ? WHITE_BIT : 0), UNTOLD);
        }

        static int withResult(int cell, int result) {
            return (cell & (OPPONENT_BITS | WHITE_BIT)) + (result << RESULT_SHIFT);
        }

        static boolean isGame(int cell) {
            return cell != NONE && cell != OF_BYE;
        }

        static boolean isUntold(int cell) {
            return isGame(cell) && resultIn(cell) == UNTOLD;
        }

        static int opponentIn(int cell) {
            return cell & OPPONENT_BITS;
        }

        static int colourIn(int cell) {
            return (cell & WHITE_BIT) != 0 ? WHITE : BLACK;
        }

        static int resultIn(int cell) {
            return cell >> RESULT_SHIFT;
        }
    }

    /** The figures of each player over all closed rounds, counted anew whenever one is closed or taken back. */
    private static final class Standing {
        final int[] score = new int[MOST_PLAYERS];
        final int[] balance = new int[MOST_PLAYERS];
        final int[] buchholz = new int[MOST_PLAYERS];
        final int[] berger = new int[MOST_PLAYERS];
        final int[] wins = new int[MOST_PLAYERS];
        final int[] byes = new int[MOST_PLAYERS];
        final int[] games = new int[MOST_PLAYERS];
        /** The colours of the latest game and of the one before it; 0 when there is none. */
        final int[] latest = new int[MOST_PLAYERS];
        final int[] lastButOne = new int[MOST_PLAYERS];
        /** For each player a bit for each other with whom it has played. */
        final int[] met = new int[MOST_PLAYERS];

        void recount(int[][] cells, int closedRounds) {
            clear();
            for (int r = 0; r < closedRounds; r++) {
                for (int p = 0; p < MOST_PLAYERS; p++) {
                    countCell(p, cells[r][p]);
                }
            }
            // The scores of opponents can be summed only when all scores stand.
            for (int r = 0; r < closedRounds; r++) {
                for (int p = 0; p < MOST_PLAYERS; p++) {
                    countOpponent(p, cells[r][p]);
                }
            }
        }

        private void clear() {
            Arrays.fill(score, 0);
            Arrays.fill(balance, 0);
            Arrays.fill(buchholz, 0);
            Arrays.fill(berger, 0);
            Arrays.fill(wins, 0);
            Arrays.fill(byes, 0);
            Arrays.fill(games, 0);
            Arrays.fill(latest, 0);
            Arrays.fill(lastButOne, 0);
            Arrays.fill(met, 0);
        }

        private void countCell(int p, int cell) {
            if (cell == NONE) {
                return;
            }
            score[p] += Cell.resultIn(cell);
            if (!Cell.isGame(cell)) {
                byes[p]++;
                return;
            }
            games[p]++;
            if (Cell.resultIn(cell) == Cell.WON) {
                wins[p]++;
            }
            int colour = Cell.colourIn(cell);
            balance[p] += colour;
            lastButOne[p] = latest[p];
            latest[p] = colour;
            met[p] |= 1 << Cell.opponentIn(cell);
        }

        private void countOpponent(int p, int cell) {
            if (Cell.isGame(cell)) {
                int theirs = score[Cell.opponentIn(cell)];
                buchholz[p] += theirs;
                // A result is 2, 1 or 0: just how often Berger counts the opponent's score.
                berger[p] += Cell.resultIn(cell) * theirs;
            }
        }

        boolean isBeforeInOrder(int p, int q) {
            return score[p] != score[q] ? score[p] > score[q] : p < q;
        }

        private boolean isBeforeInTable(int p, int q) {
            if (score[p] != score[q]) {
                return score[p] > score[q];
            }
            if (buchholz[p] != buchholz[q]) {
                return buchholz[p] > buchholz[q];
            }
            if (berger[p] != berger[q]) {
                return berger[p] > berger[q];
            }
            return wins[p] != wins[q] ? wins[p] > wins[q] : p < q;
        }

        int playerAt(int place, int playerCount) {
            for (int p = 0; p < playerCount; p++) {
                int before = 0;
                for (int q = 0; q < playerCount; q++) {
                    if (isBeforeInTable(q, p)) {
                        before++;
                    }
                }
                if (before == place) {
                    return p;
                }
            }
            return NONE;
        }

        boolean getsByeBefore(int p, int q) {
            if (byes[p] != byes[q]) {
                return byes[p] < byes[q];
            }
            return score[p] != score[q] ? score[p] < score[q] : p > q;
        }

        /** The colour of p in a game with q, p before q in the order. */
        int colourOfFirst(int p, int q, int closedRounds) {
            if (balance[p] != balance[q]) {
                return balance[p] < balance[q] ? Cell.WHITE : Cell.BLACK;
            }
            if (latest[p] == -latest[q] && latest[p] != 0) {
                return -latest[p];
            }
            return closedRounds % 2 == 0 ? Cell.WHITE : Cell.BLACK;
        }

        /** The cost of a game of p and q, p before q in the order. */
        int costOfGame(int p, int q, int closedRounds) {
            int gap = score[p] - score[q];
            int colour = colourOfFirst(p, q, closedRounds);
            return 64 * gap * gap + clashes(p, colour) + clashes(q, -colour);
        }

        private int clashes(int p, int colour) {
            int clashes = 0;
            if (latest[p] == colour && lastButOne[p] == colour) {
                clashes++;
            }
            int becomes = balance[p] + colour;
            if (becomes >= 3 || becomes <= -3) {
                clashes++;
            }
            return clashes;
        }
    }

    /**
     * The pairing of those that are in. They are seated in the order, but the one with the bye; a set of seats is a
     * number with a bit for each, and for each set that can be left over the least cost and the count of its pairings
     * are found from those of the lesser sets.
     */
    private static final class Pairing {
        private static final int BARRED = -1;
        private static final int EVEN_SETS = 1 << (MOST_PLAYERS - 1);

        private final int[] seated = new int[MOST_PLAYERS];
        private int seats;
        private int byePlayer = NONE;
        /** The cost of a game of two seats, the lesser first; BARRED when they may have none. */
        private final int[][] price = new int[MOST_PLAYERS][MOST_PLAYERS];
        private final int[] least = new int[EVEN_SETS];
        private final int[] counted = new int[EVEN_SETS];

        void workOut(Standing standing, boolean[] present, int[] apartFrom, int closedRounds) {
            chooseBye(standing, present);
            seatPlayers(standing, present);
            priceGames(standing, apartFrom, closedRounds);
            solve();
        }

        boolean isPossible() {
            return (seats > 0 || byePlayer != NONE) && count() > 0;
        }

        int games() {
            return seats / 2;
        }

        int leastCost() {
            return least[indexOf(allSeats())];
        }

        int count() {
            return counted[indexOf(allSeats())];
        }

        void writeTo(int[] row, Standing standing, int closedRounds) {
            Arrays.fill(row, NONE);
            if (byePlayer != NONE) {
                row[byePlayer] = Cell.OF_BYE;
            }
            int left = allSeats();
            for (int game = 0; game < games(); game++) {
                int first = Integer.numberOfTrailingZeros(left);
                int second = bestPartner(left, first);
                int p = seated[first];
                int q = seated[second];
                int colour = standing.colourOfFirst(p, q, closedRounds);
                row[p] = Cell.untoldGame(q, colour);
                row[q] = Cell.untoldGame(p, -colour);
                left = without(left, first, second);
            }
        }

        private void chooseBye(Standing standing, boolean[] present) {
            int number = 0;
            int choice = NONE;
            for (int p = 0; p < MOST_PLAYERS; p++) {
                if (present[p]) {
                    number++;
                    if (choice == NONE || standing.getsByeBefore(p, choice)) {
                        choice = p;
                    }
                }
            }
            byePlayer = number % 2 == 1 ? choice : NONE;
        }

        private void seatPlayers(Standing standing, boolean[] present) {
            seats = 0;
            for (int p = 0; p < MOST_PLAYERS; p++) {
                if (present[p] && p != byePlayer) {
                    seatOne(standing, p);
                }
            }
        }

        private void seatOne(Standing standing, int p) {
            int seat = seats;
            while (seat > 0 && standing.isBeforeInOrder(p, seated[seat - 1])) {
                seated[seat] = seated[seat - 1];
                seat--;
            }
            seated[seat] = p;
            seats++;
        }

        private void priceGames(Standing standing, int[] apartFrom, int closedRounds) {
            for (int first = 0; first < seats; first++) {
                int p = seated[first];
                int barred = standing.met[p] | apartFrom[p];
                for (int second = first + 1; second < seats; second++) {
                    int q = seated[second];
                    boolean free = (barred >> q & 1) == 0;
                    price[first][second] = free ? standing.costOfGame(p, q, closedRounds) : BARRED;
                }
            }
        }

        private void solve() {
            least[0] = 0;
            counted[0] = 1;
            int sets = seats == 0 ? 1 : 1 << (seats - 1);
            for (int index = 1; index < sets; index++) {
                int left = evenSet(index);
                if (canBeLeft(left)) {
                    solveSet(left);
                }
            }
        }

        private void solveSet(int left) {
            int first = Integer.numberOfTrailingZeros(left);
            int best = 0;
            int found = 0;
            for (int second = first + 1; second < seats; second++) {
                int rest = indexOf(without(left, first, second));
                if (mayPlay(left, first, second) && counted[rest] > 0) {
                    int cost = price[first][second] + least[rest];
                    best = found == 0 ? cost : Math.min(best, cost);
                    found += counted[rest];
                }
            }
            least[indexOf(left)] = best;
            counted[indexOf(left)] = found;
        }

        /** Of the partners of the first seat with which the least cost is kept, the one that is first in the order. */
        private int bestPartner(int left, int first) {
            for (int second = first + 1; second < seats; second++) {
                int rest = indexOf(without(left, first, second));
                if (mayPlay(left, first, second) && counted[rest] > 0
                        && price[first][second] + least[rest] == least[indexOf(left)]) {
                    return second;
                }
            }
            return first;
        }

        private boolean mayPlay(int left, int first, int second) {
            return (left >> second & 1) == 1 && price[first][second] != BARRED;
        }

        /**
         * Games are made for the first seat that is left, so each game made had its first seat before that one: there
         * are no more games than such seats. Sets that need more are never asked for, and most of all sets are such.
         */
        private boolean canBeLeft(int left) {
            int games = (seats - Integer.bitCount(left)) / 2;
            return games <= Integer.numberOfTrailingZeros(left);
        }

        private int allSeats() {
            return (1 << seats) - 1;
        }

        private static int without(int left, int first, int second) {
            return left & ~(1 << first | 1 << second);
        }

        // Only sets of an even number of seats are looked at: the other bits tell the lowest, so that it is left out.

        private static int indexOf(int evenSet) {
            return evenSet >> 1;
        }

        private static int evenSet(int index) {
            return index << 1 | Integer.bitCount(index) & 1;
        }
    }
}
