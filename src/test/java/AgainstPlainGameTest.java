import java.util.Random;

/** Long runs of calls, right and wrong ones, each answer compared with that of PlainGame. */
public final class AgainstPlainGameTest {
    private static final int CALLS = 512;
    private static final int[] WRONG = {Integer.MIN_VALUE, -2, -1, 0, 2, 4, 5, 6, 15, 16, 61, Integer.MAX_VALUE};

    private final Random random;
    private final RoyalUrTable table = new RoyalUrTable();
    private final PlainGame plain = new PlainGame();
    private String run;

    private AgainstPlainGameTest(int seed) {
        random = new Random(seed);
        run = "run " + seed + ":";
    }

    public static void main(String[] args) {
        Checks all = new Checks();
        for (int seed = 0; seed < 600; seed++) {
            all.same("answers of run " + seed, new AgainstPlainGameTest(seed).differences(seed), "");
        }
        all.finish("AgainstPlainGameTest");
    }

    /** The run up to the first answer that differs; empty if none does. */
    private String differences(int seed) {
        int pieces = seed % 5;
        if (pieces != 0 && !same("begin " + pieces, () -> begun(pieces), () -> plain.begin(pieces))) {
            return run;
        }
        // Some runs play on most of the time, so that games come to their ends; others ask more.
        int playing = 30 + 20 * (seed % 4);
        for (int call = 1; call < CALLS; call++) {
            boolean same = random.nextInt(100) < playing ? playOn() : anyCall();
            if (!same) {
                return run;
            }
        }
        return "";
    }

    private boolean same(String call, Checks.Call own, Checks.Call due) {
        Object got = Checks.outcome(own);
        Object want = Checks.outcome(due);
        run += " " + call + "=" + got;
        if (want.equals(got)) {
            return true;
        }
        run += " (due is " + want + ")";
        return false;
    }

    private Object begun(int pieces) {
        table.begin(pieces);
        return "";
    }

    private boolean playOn() {
        if (plain.winner() != PlainGame.NONE && random.nextInt(8) == 0) {
            int pieces = 1 + random.nextInt(4);
            return same("begin " + pieces, () -> begun(pieces), () -> plain.begin(pieces));
        }
        if (plain.marks() == PlainGame.NONE) {
            int marks = random.nextInt(5);
            return same("tell " + marks, () -> table.tell(marks), () -> plain.tell(marks));
        }
        // The foremost piece more often than others: so some pieces get home before the rest.
        int index = random.nextInt(3) == 0 ? random.nextInt(plain.moves()) : plain.moves() - 1;
        int place = plain.moveAt(index);
        return same("move " + place, () -> table.move(place), () -> plain.move(place));
    }

    private int oneOf(int least, int most) {
        return random.nextInt(12) == 0
                ? WRONG[random.nextInt(WRONG.length)]
                : least + random.nextInt(most - least + 1);
    }

    /** Seldom the dear depths: PlainGame is slow. */
    private int anyDepth() {
        return random.nextInt(10) == 0 ? 3 : oneOf(0, 2);
    }

    private boolean anyCall() {
        if (random.nextInt(3) == 0) {
            return anyCallOfTheGame();
        }
        return random.nextInt(2) == 0 ? anyCallOfMoves() : anyCallOfWorths();
    }

    private boolean anyCallOfTheGame() {
        int side = oneOf(0, 1);
        int place = oneOf(0, 15);
        int marks = oneOf(0, 4);
        // Seldom a right one, as it ends the game.
        int pieces = random.nextInt(12) == 0 ? oneOf(1, 4) : WRONG[random.nextInt(4)];
        switch (random.nextInt(10)) {
            case 0:
                return same("begin " + pieces, () -> begun(pieces), () -> plain.begin(pieces));
            case 1:
                return same("tell " + marks, () -> table.tell(marks), () -> plain.tell(marks));
            case 2:
                return same("move " + place, () -> table.move(place), () -> plain.move(place));
            case 3:
                return same("turn", table::turn, plain::turn);
            case 4:
                return same("marks", table::marks, plain::marks);
            case 5:
                return same("winner", table::winner, plain::winner);
            case 6:
                return same("at " + side + " " + place, () -> table.at(side, place), () -> plain.at(side, place));
            case 7:
                return same("progress " + side, () -> table.progress(side), () -> plain.progress(side));
            case 8:
                return same("captured " + side, () -> table.captured(side), () -> plain.captured(side));
            default:
                return same("throwsTold", table::throwsTold, plain::throwsTold);
        }
    }

    private boolean anyCallOfMoves() {
        int index = oneOf(0, 4);
        int place = oneOf(0, 14);
        switch (random.nextInt(3)) {
            case 0:
                return same("moves", table::moves, plain::moves);
            case 1:
                return same("moveAt " + index, () -> table.moveAt(index), () -> plain.moveAt(index));
            default:
                return same("captures " + place, () -> table.captures(place), () -> plain.captures(place));
        }
    }

    private boolean anyCallOfWorths() {
        int depth = anyDepth();
        int rank = oneOf(0, 3);
        int own = oneOf(0, 14);
        int other = oneOf(0, 14);
        int rounds = oneOf(0, 60);
        int few = oneOf(0, 5);
        switch (random.nextInt(5)) {
            case 0:
                return same("worth " + depth, () -> table.worth(depth), () -> plain.worth(depth));
            case 1:
                return same("chance " + depth, () -> table.chance(depth), () -> plain.chance(depth));
            case 2:
                return same("ranked " + depth + " " + rank,
                        () -> table.ranked(depth, rank), () -> plain.ranked(depth, rank));
            case 3:
                return same("ending " + own + " " + other + " " + rounds,
                        () -> table.ending(own, other, rounds), () -> plain.ending(own, other, rounds));
            default:
                return same("endingByThrows " + own + " " + other + " " + few,
                        () -> table.endingByThrows(own, other, few), () -> plain.endingByThrows(own, other, few));
        }
    }
}
