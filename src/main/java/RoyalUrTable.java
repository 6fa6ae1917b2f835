/** A table for a race game with two sides, after the Royal Game of Ur. */
public final class RoyalUrTable {
    public static final int NONE = -1;

    private static final int FIRST_PIECES = 2;
    private static final int MOST_PIECES = 4;
    private static final int MOST_DEPTH = 3;
    private static final int MOST_ROUNDS = 60;
    private static final int MOST_ROUNDS_PLAYED = 5;
    private static final int ROUNDS_AT_DEPTH_0 = 40;

    private static final int WHOLE = 1000000000;
    private static final int HALF = 500000000;
    private static final int WORTH_OF_A_PLACE = 4000000;

    private final Side side0;
    private final Side side1;
    private final Endings endings;
    /** For ranked(): one row that is used again, as each object made counts. */
    private final int[] worthsBehind;
    private int piecesOfEach;
    private int turn;
    private int marksTold;
    private int winner;
    private int throwsTold;

    public RoyalUrTable() {
        side0 = new Side();
        side1 = new Side();
        endings = new Endings();
        worthsBehind = new int[Way.HOME];
        setUp(FIRST_PIECES);
    }

    // ---- the game

    public void begin(int pieces) throws IllegalArgumentException {
        refuseOutside(pieces, 1, MOST_PIECES);
        setUp(pieces);
    }

    public int tell(int marks) throws IllegalArgumentException, IllegalStateException {
        refuseOutside(marks, 0, Dice.MOST_MARKS);
        if (winner != NONE || marksTold != NONE) {
            throw new IllegalStateException();
        }
        throwsTold++;
        int possible = countMoves(marks);
        if (possible == 0) {
            turn = 1 - turn;
        } else {
            marksTold = marks;
        }
        return possible;
    }

    public int move(int place) throws IllegalArgumentException, IllegalStateException {
        refuseOutside(place, 0, Way.LAST);
        if (!canMoveFrom(place)) {
            throw new IllegalStateException();
        }
        int to = place + marksTold;
        Side mover = sideOf(turn);
        Side opponent = sideOf(1 - turn);
        mover.layout = Layout.shifted(mover.layout, place, to);
        if (Layout.canBeTaken(opponent.layout, to)) {
            opponent.layout = Layout.shifted(opponent.layout, to, 0);
            opponent.lost++;
        }
        if (Layout.isAllHome(mover.layout)) {
            winner = turn;
        }
        if (!Way.isRosette(to)) {
            turn = 1 - turn;
        }
        marksTold = NONE;
        return to;
    }

    public int turn() {
        return turn;
    }

    public int marks() {
        return marksTold;
    }

    public int winner() {
        return winner;
    }

    public int at(int side, int place) throws IllegalArgumentException {
        refuseOutside(side, 0, 1);
        refuseOutside(place, 0, Way.HOME);
        return Layout.countAt(sideOf(side).layout, place);
    }

    public int progress(int side) throws IllegalArgumentException {
        refuseOutside(side, 0, 1);
        return Layout.sumOfPlaces(sideOf(side).layout);
    }

    public int captured(int side) throws IllegalArgumentException {
        refuseOutside(side, 0, 1);
        return sideOf(side).lost;
    }

    public int throwsTold() {
        return throwsTold;
    }

    // ---- moves that are possible

    public int moves() {
        return countMoves(marksTold);
    }

    public int moveAt(int index) {
        int before = 0;
        for (int from = 0; from <= Way.LAST; from++) {
            if (canMoveFrom(from)) {
                if (before == index) {
                    return from;
                }
                before++;
            }
        }
        return NONE;
    }

    public boolean captures(int place) throws IllegalArgumentException {
        refuseOutside(place, 0, Way.LAST);
        return canMoveFrom(place) && Layout.canBeTaken(sideOf(1 - turn).layout, place + marksTold);
    }

    // ---- worths

    public int worth(int depth) throws IllegalArgumentException {
        refuseOutside(depth, 0, MOST_DEPTH);
        int worth = worthForTurn(depth);
        return turn == 0 ? worth : WHOLE - worth;
    }

    public double chance(int depth) throws IllegalArgumentException {
        refuseOutside(depth, 0, MOST_DEPTH);
        return (double) worthForTurn(depth) / WHOLE;
    }

    public int ranked(int depth, int rank) throws IllegalArgumentException {
        refuseOutside(depth, 0, MOST_DEPTH);
        if (rank < 0) {
            throw new IllegalArgumentException();
        }
        // Looking ahead is dear, and in vain where there are not so many moves.
        if (rank >= countMoves(marksTold)) {
            return NONE;
        }
        noteWorthsBehind(depth);
        for (int from = 0; from < worthsBehind.length; from++) {
            int worth = worthsBehind[from];
            if (worth != NONE && countBetter(from, worth) == rank) {
                return from;
            }
        }
        return NONE;
    }

    public int ending(int own, int other, int rounds) throws IllegalArgumentException {
        refuseEnding(own, other);
        refuseOutside(rounds, 0, MOST_ROUNDS);
        endings.fillUpTo(rounds);
        return endings.held(own, other, rounds);
    }

    public int endingByThrows(int own, int other, int rounds) throws IllegalArgumentException {
        refuseEnding(own, other);
        refuseOutside(rounds, 0, MOST_ROUNDS_PLAYED);
        return endings.playedOut(own, other, rounds);
    }

    // ---- what the calls share

    private static void refuseOutside(int value, int least, int most) {
        if (value < least || value > most) {
            throw new IllegalArgumentException();
        }
    }

    private static void refuseEnding(int own, int other) {
        refuseOutside(own, 0, Way.LAST);
        refuseOutside(other, 0, Way.LAST);
        if (own == other && Way.isShared(own)) {
            throw new IllegalArgumentException();
        }
    }

    private void setUp(int pieces) {
        piecesOfEach = pieces;
        side0.layout = Layout.allAtStart(pieces);
        side1.layout = Layout.allAtStart(pieces);
        side0.lost = 0;
        side1.lost = 0;
        turn = 0;
        marksTold = NONE;
        winner = NONE;
        throwsTold = 0;
    }

    private Side sideOf(int number) {
        return number == 0 ? side0 : side1;
    }

    /** False too if no move is to be made: no piece can move with the marks NONE. */
    private boolean canMoveFrom(int place) {
        return Layout.canMove(sideOf(turn).layout, sideOf(1 - turn).layout, place, marksTold);
    }

    private int countMoves(int marks) {
        long own = sideOf(turn).layout;
        long other = sideOf(1 - turn).layout;
        int count = 0;
        for (int from = 0; from <= Way.LAST; from++) {
            if (Layout.canMove(own, other, from, marks)) {
                count++;
            }
        }
        return count;
    }

    /** How far the side whose turn it is is ahead. */
    private int leadOfTurn() {
        return Layout.sumOfPlaces(sideOf(turn).layout) - Layout.sumOfPlaces(sideOf(1 - turn).layout);
    }

    private int worthForTurn(int depth) {
        if (winner != NONE) {
            return winner == turn ? WHOLE : 0;
        }
        endings.fillUpTo(ROUNDS_AT_DEPTH_0);
        long own = sideOf(turn).layout;
        long other = sideOf(1 - turn).layout;
        if (marksTold == NONE) {
            return worthToThrow(own, other, leadOfTurn(), depth);
        }
        return worthBehindThrow(own, other, leadOfTurn(), marksTold, depth);
    }

    private void noteWorthsBehind(int depth) {
        endings.fillUpTo(ROUNDS_AT_DEPTH_0);
        long own = sideOf(turn).layout;
        long other = sideOf(1 - turn).layout;
        int lead = leadOfTurn();
        for (int from = 0; from < worthsBehind.length; from++) {
            worthsBehind[from] = Layout.canMove(own, other, from, marksTold)
                    ? worthBehindMove(own, other, lead, from, marksTold, depth)
                    : NONE;
        }
    }

    /** How many moves rank ahead of the one from this place, which has this worth behind it. */
    private int countBetter(int place, int worth) {
        int count = 0;
        for (int from = 0; from < worthsBehind.length; from++) {
            if (worthsBehind[from] > worth || worthsBehind[from] == worth && from < place) {
                count++;
            }
        }
        return count;
    }

    // ---- looking ahead
    //
    // The worths are for the side whose layout is 'own'. 'lead' is how far it is ahead in progress:
    // it is carried along, as summing the places of each position reached would be dear.

    private int worthToThrow(long own, long other, int lead, int depth) {
        if (depth <= 0) {
            return worthAtOnce(own, other, lead);
        }
        long sum = 0;
        for (int marks = 0; marks <= Dice.MOST_MARKS; marks++) {
            sum += (long) Dice.timesIn16(marks) * worthBehindThrow(own, other, lead, marks, depth - 1);
        }
        return (int) (sum / 16);
    }

    private int worthBehindThrow(long own, long other, int lead, int marks, int depth) {
        int best = NONE;
        for (int from = 0; from <= Way.LAST; from++) {
            if (Layout.canMove(own, other, from, marks)) {
                best = Math.max(best, worthBehindMove(own, other, lead, from, marks, depth));
            }
        }
        return best != NONE ? best : WHOLE - worthToThrow(other, own, -lead, depth);
    }

    private int worthBehindMove(long own, long other, int lead, int from, int marks, int depth) {
        int to = from + marks;
        long ownThen = Layout.shifted(own, from, to);
        if (Layout.isAllHome(ownThen)) {
            return WHOLE;
        }
        long otherThen = other;
        int leadThen = lead + marks;
        if (Layout.canBeTaken(other, to)) {
            otherThen = Layout.shifted(other, to, 0);
            leadThen += to;
        }
        if (Way.isRosette(to)) {
            return worthToThrow(ownThen, otherThen, leadThen, depth);
        }
        return WHOLE - worthToThrow(otherThen, ownThen, -leadThen, depth);
    }

    private int worthAtOnce(long own, long other, int lead) {
        int homeInEnding = piecesOfEach - 1;
        if (Layout.countAt(own, Way.HOME) == homeInEnding && Layout.countAt(other, Way.HOME) == homeInEnding) {
            return endings.held(Layout.firstPlace(own), Layout.firstPlace(other), ROUNDS_AT_DEPTH_0);
        }
        return Math.min(Math.max(HALF + WORTH_OF_A_PLACE * lead, 1), WHOLE - 1);
    }

    /** The places that a piece goes over, and who may come where. */
    private static final class Way {
        static final int HOME = 15;
        static final int LAST = 14;
        private static final int FIRST_SHARED = 5;
        private static final int LAST_SHARED = 12;
        private static final int SHARED_ROSETTE = 8;

        static boolean isRosette(int place) {
            return place == 4 || place == SHARED_ROSETTE || place == 14;
        }

        static boolean isShared(int place) {
            return place >= FIRST_SHARED && place <= LAST_SHARED;
        }

        static boolean canEnter(int place, boolean ownIsThere, boolean otherIsThere) {
            if (place >= HOME) {
                return place == HOME;
            }
            return !ownIsThere && !(otherIsThere && place == SHARED_ROSETTE);
        }
    }

    private static final class Dice {
        static final int MOST_MARKS = 4;
        private static final int[] TIMES_IN_16 = {1, 4, 6, 4, 1};

        static int timesIn16(int marks) {
            return marks < 0 || marks >= TIMES_IN_16.length ? 0 : TIMES_IN_16[marks];
        }
    }

    /**
     * What can be asked of a layout: how many pieces of one side are at each place, in a long, so that looking ahead
     * makes no objects. Each place has four bits, place 0 the lowest ones.
     */
    private static final class Layout {
        private static final int BITS = 4;
        private static final long ALL_BUT_HOME = 0x0FFFFFFFFFFFFFFFL;

        static long allAtStart(int pieces) {
            return pieces;
        }

        static int countAt(long layout, int place) {
            return place < 0 || place > Way.HOME ? 0 : (int) (layout >>> (BITS * place)) & 15;
        }

        static long shifted(long layout, int from, int to) {
            return layout - (1L << (BITS * from)) + (1L << (BITS * to));
        }

        static boolean isAllHome(long layout) {
            return (layout & ALL_BUT_HOME) == 0;
        }

        static int sumOfPlaces(long layout) {
            int sum = 0;
            for (int place = 1; place <= Way.HOME; place++) {
                sum += place * countAt(layout, place);
            }
            return sum;
        }

        /** The place of the piece that is behind all others of its side. */
        static int firstPlace(long layout) {
            int place = 0;
            while (place < Way.HOME && countAt(layout, place) == 0) {
                place++;
            }
            return place;
        }

        static boolean canMove(long own, long other, int from, int marks) {
            if (marks <= 0 || countAt(own, from) == 0) {
                return false;
            }
            int to = from + marks;
            return Way.canEnter(to, countAt(own, to) > 0, countAt(other, to) > 0);
        }

        static boolean canBeTaken(long other, int place) {
            return Way.isShared(place) && countAt(other, place) > 0;
        }
    }

    private static final class Side {
        long layout;
        int lost;
    }

    /** The worths of endings: a row for each number of rounds, filled no further than it is asked for. */
    private static final class Endings {
        private static final int ROW = Way.HOME * Way.HOME;

        private final int[] worths;
        private int roundsHeld;

        Endings() {
            worths = new int[MOST_ROUNDS * ROW];
        }

        void fillUpTo(int rounds) {
            int last = Math.min(rounds, MOST_ROUNDS);
            for (int next = roundsHeld + 1; next <= last; next++) {
                fillRow(next);
                roundsHeld = next;
            }
        }

        /** From the table, which has to be filled up to these rounds. */
        int held(int own, int other, int rounds) {
            if (rounds <= 0) {
                return HALF;
            }
            int index = (rounds - 1) * ROW + own * Way.HOME + other;
            return index < 0 || index >= worths.length ? HALF : worths[index];
        }

        /** Plays on until no rounds are left: for those nothing is looked up. */
        int playedOut(int own, int other, int rounds) {
            return worthToThrow(own, other, rounds, 0);
        }

        private void fillRow(int rounds) {
            int index = (rounds - 1) * ROW;
            for (int own = 0; own < Way.HOME; own++) {
                for (int other = 0; other < Way.HOME; other++) {
                    if (index >= 0 && index < worths.length) {
                        worths[index] = worthToThrow(own, other, rounds, rounds - 1);
                    }
                    index++;
                }
            }
        }

        /** Plays throws out until so few rounds are left that the table is to tell. */
        private int worthToThrow(int own, int other, int rounds, int roundsFromTable) {
            if (rounds <= roundsFromTable) {
                return held(own, other, rounds);
            }
            long sum = 0;
            for (int marks = 0; marks <= Dice.MOST_MARKS; marks++) {
                sum += (long) Dice.timesIn16(marks)
                        * worthBehindThrow(own, other, marks, rounds - 1, roundsFromTable);
            }
            return (int) (sum / 16);
        }

        private int worthBehindThrow(int own, int other, int marks, int rounds, int roundsFromTable) {
            int to = own + marks;
            if (marks == 0 || !Way.canEnter(to, false, other == to)) {
                return WHOLE - worthToThrow(other, own, rounds, roundsFromTable);
            }
            if (to == Way.HOME) {
                return WHOLE;
            }
            int otherThen = other == to && Way.isShared(to) ? 0 : other;
            if (Way.isRosette(to)) {
                return worthToThrow(to, otherThen, rounds, roundsFromTable);
            }
            return WHOLE - worthToThrow(otherThen, to, rounds, roundsFromTable);
        }
    }
}
