import java.util.ArrayList;
import java.util.List;
import java.util.TreeMap;
import java.util.TreeSet;

/**
 * The document's words in their plainest form, to compare RoyalUrTable with: a side is a row with the place of each
 * of its pieces, and each position that is looked at is made anew.
 */
final class PlainGame {
    static final int NONE = -1;
    private static final long WHOLE = 1000000000L;
    private static final int[] TIMES = {1, 4, 6, 4, 1};
    private static final long[][][] ENDINGS = new long[61][15][15];

    private int[][] places;
    private int turn;
    private int marks;
    private int[] captured;
    private int throwsTold;

    PlainGame() {
        begin(2);
    }

    private static void demand(boolean held) {
        if (!held) {
            throw new IllegalArgumentException();
        }
    }

    private static void demandState(boolean held) {
        if (!held) {
            throw new IllegalStateException();
        }
    }

    Object begin(int pieces) {
        demand(pieces >= 1 && pieces <= 4);
        places = new int[2][pieces];
        turn = 0;
        marks = NONE;
        captured = new int[2];
        throwsTold = 0;
        return "";
    }

    int tell(int told) {
        demand(told >= 0 && told <= 4);
        demandState(winner() == NONE && marks == NONE);
        throwsTold++;
        int possible = starts(places[turn], places[1 - turn], told).size();
        if (possible == 0) {
            turn = 1 - turn;
        } else {
            marks = told;
        }
        return possible;
    }

    int move(int place) {
        demand(place >= 0 && place <= 14);
        demandState(marks != NONE && starts().contains(place));
        int to = place + marks;
        if (captures(place)) {
            captured[1 - turn]++;
        }
        Position then = new Position(places[turn], places[1 - turn]).after(place, marks);
        places[turn] = then.own;
        places[1 - turn] = then.other;
        marks = NONE;
        if (!isRosette(to)) {
            turn = 1 - turn;
        }
        return to;
    }

    int turn() {
        return turn;
    }

    int marks() {
        return marks;
    }

    int winner() {
        for (int side = 0; side < 2; side++) {
            if (allHome(places[side])) {
                return side;
            }
        }
        return NONE;
    }

    int at(int side, int place) {
        demand((side == 0 || side == 1) && place >= 0 && place <= 15);
        return count(places[side], place);
    }

    int progress(int side) {
        demand(side == 0 || side == 1);
        return sum(places[side]);
    }

    int captured(int side) {
        demand(side == 0 || side == 1);
        return captured[side];
    }

    int throwsTold() {
        return throwsTold;
    }

    int moves() {
        return starts().size();
    }

    int moveAt(int index) {
        return index >= 0 && index < moves() ? starts().get(index) : NONE;
    }

    boolean captures(int place) {
        demand(place >= 0 && place <= 14);
        int to = place + marks;
        return starts().contains(place) && isShared(to) && count(places[1 - turn], to) > 0;
    }

    int worth(int depth) {
        demand(depth >= 0 && depth <= 3);
        if (winner() != NONE) {
            return winner() == 0 ? (int) WHOLE : 0;
        }
        long worth = worthForTurn(depth);
        return (int) (turn == 0 ? worth : WHOLE - worth);
    }

    double chance(int depth) {
        demand(depth >= 0 && depth <= 3);
        return winner() != NONE ? 0.0 : worthForTurn(depth) / 1e9;
    }

    int ranked(int depth, int rank) {
        demand(depth >= 0 && depth <= 3 && rank >= 0);
        Position now = new Position(places[turn], places[1 - turn]);
        TreeMap<Long, TreeSet<Integer>> byFallingWorth = new TreeMap<>();
        for (int start : starts()) {
            long worth = worthBehindMove(now, start, marks, depth);
            byFallingWorth.computeIfAbsent(-worth, w -> new TreeSet<>()).add(start);
        }
        List<Integer> order = new ArrayList<>();
        byFallingWorth.values().forEach(order::addAll);
        return rank < order.size() ? order.get(rank) : NONE;
    }

    int ending(int own, int other, int rounds) {
        return endingUpTo(own, other, rounds, 60);
    }

    int endingByThrows(int own, int other, int rounds) {
        return endingUpTo(own, other, rounds, 5);
    }

    private static int endingUpTo(int own, int other, int rounds, int mostRounds) {
        demand(own >= 0 && own <= 14 && other >= 0 && other <= 14);
        demand(rounds >= 0 && rounds <= mostRounds);
        demand(!(own == other && isShared(own)));
        return (int) endingWorth(own, other, rounds);
    }

    private List<Integer> starts() {
        return starts(places[turn], places[1 - turn], marks);
    }

    private long worthForTurn(int depth) {
        Position now = new Position(places[turn], places[1 - turn]);
        return marks == NONE ? worthToThrow(now, depth) : worthBehindThrow(now, marks, depth);
    }

    /** Two sides, the first one that which is to throw. */
    private static final class Position {
        final int[] own;
        final int[] other;

        Position(int[] own, int[] other) {
            this.own = own;
            this.other = other;
        }

        Position turned() {
            return new Position(other, own);
        }

        Position after(int from, int marks) {
            Position then = new Position(own.clone(), other.clone());
            int to = from + marks;
            then.own[indexOf(own, from)] = to;
            if (isShared(to) && count(other, to) > 0) {
                then.other[indexOf(other, to)] = 0;
            }
            return then;
        }
    }

    private static List<Integer> starts(int[] own, int[] other, int marks) {
        TreeSet<Integer> starts = new TreeSet<>();
        for (int place : own) {
            int to = place + marks;
            boolean ownIsThere = to < 15 && count(own, to) > 0;
            boolean safeForOther = to == 8 && count(other, 8) > 0;
            if (marks > 0 && to <= 15 && !ownIsThere && !safeForOther) {
                starts.add(place);
            }
        }
        return new ArrayList<>(starts);
    }

    private static long worthToThrow(Position p, int depth) {
        if (depth == 0) {
            return worthAtOnce(p);
        }
        long sum = 0;
        for (int marks = 0; marks <= 4; marks++) {
            sum += TIMES[marks] * worthBehindThrow(p, marks, depth - 1);
        }
        return Math.floorDiv(sum, 16L);
    }

    private static long worthBehindThrow(Position p, int marks, int depth) {
        List<Integer> starts = starts(p.own, p.other, marks);
        if (starts.isEmpty()) {
            return WHOLE - worthToThrow(p.turned(), depth);
        }
        long best = 0;
        for (int start : starts) {
            best = Math.max(best, worthBehindMove(p, start, marks, depth));
        }
        return best;
    }

    private static long worthBehindMove(Position p, int from, int marks, int depth) {
        Position then = p.after(from, marks);
        if (allHome(then.own)) {
            return WHOLE;
        }
        return isRosette(from + marks) ? worthToThrow(then, depth) : WHOLE - worthToThrow(then.turned(), depth);
    }

    private static long worthAtOnce(Position p) {
        int pieces = p.own.length;
        if (count(p.own, 15) == pieces - 1 && count(p.other, 15) == pieces - 1) {
            return endingWorth(sum(p.own) - 15 * (pieces - 1), sum(p.other) - 15 * (pieces - 1), 40);
        }
        return Math.max(1, Math.min(999999999, 500000000L + 4000000L * (sum(p.own) - sum(p.other))));
    }

    /** 0 in the row stands for one that is not reckoned yet: it is no harm if it is reckoned twice. */
    private static long endingWorth(int own, int other, int rounds) {
        if (rounds == 0) {
            return 500000000L;
        }
        if (ENDINGS[rounds][own][other] == 0) {
            long sum = 0;
            for (int marks = 0; marks <= 4; marks++) {
                sum += TIMES[marks] * endingBehindThrow(own, other, marks, rounds - 1);
            }
            ENDINGS[rounds][own][other] = sum / 16;
        }
        return ENDINGS[rounds][own][other];
    }

    private static long endingBehindThrow(int own, int other, int marks, int rounds) {
        if (starts(new int[] {own}, new int[] {other}, marks).isEmpty()) {
            return WHOLE - endingWorth(other, own, rounds);
        }
        Position then = new Position(new int[] {own}, new int[] {other}).after(own, marks);
        int to = then.own[0];
        if (to == 15) {
            return WHOLE;
        }
        return isRosette(to)
                ? endingWorth(to, then.other[0], rounds)
                : WHOLE - endingWorth(then.other[0], to, rounds);
    }

    private static boolean isRosette(int place) {
        return place == 4 || place == 8 || place == 14;
    }

    private static boolean isShared(int place) {
        return place >= 5 && place <= 12;
    }

    private static boolean allHome(int[] side) {
        return count(side, 15) == side.length;
    }

    private static int count(int[] side, int place) {
        int count = 0;
        for (int each : side) {
            count += each == place ? 1 : 0;
        }
        return count;
    }

    private static int sum(int[] side) {
        int sum = 0;
        for (int each : side) {
            sum += each;
        }
        return sum;
    }

    private static int indexOf(int[] side, int place) {
        int index = 0;
        while (side[index] != place) {
            index++;
        }
        return index;
    }
}
