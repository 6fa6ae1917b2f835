import java.util.ArrayList;
import java.util.List;
import java.util.function.Supplier;

/** The sentences of the promises 1 to 19 that name a boundary, each with its own test. */
public final class PromiseBoundariesTest {
    private static final int NONE = RoyalUrTable.NONE;
    private static final int WHOLE = 1000000000;
    private static final int LOWEST = Integer.MIN_VALUE;
    private static final int HIGHEST = Integer.MAX_VALUE;
    private static final Class<IllegalArgumentException> ARGUMENT = IllegalArgumentException.class;
    private static final Class<IllegalStateException> STATE = IllegalStateException.class;

    private final Checks checks = new Checks();

    public static void main(String[] args) {
        PromiseBoundariesTest test = new PromiseBoundariesTest();
        test.begin();
        test.tell();
        test.move();
        test.turnMarksWinner();
        test.countsOfSides();
        test.movesThatArePossible();
        test.worths();
        test.ranked();
        test.endings();
        test.checks.finish("PromiseBoundariesTest");
    }

    private void begin() {
        checks.sentence("1: A game with 2 pieces for each side", this::newObject);
        checks.sentence("2: Begins anew", this::beginsAnew);
        checks.sentence("2: pieces: 1 to 4", () -> eachFrom(1, 4, this::begins));
        checks.sentence("2: IllegalArgumentException if pieces is out of range",
                () -> refusedOutside("begin", 1, 4, this::begun));
    }

    private void tell() {
        checks.sentence("3: marks: 0 to 4", () -> eachFrom(0, 4, this::tells));
        checks.sentence("3: If no piece can move with it, the other side is to throw then", this::tellWithoutMove);
        checks.sentence("3: otherwise a move is to be made", this::tellWithMove);
        checks.sentence("3: Returns how many moves are possible", this::tellCounts);
        checks.sentence("3: pieces at place 0 count as one", () -> eachFrom(1, 4, this::tellCountsPlace0Once));
        checks.sentence("3: IllegalArgumentException if marks is out of range",
                () -> refusedOutside("tell", 0, 4, RoyalUrTable::tell));
        checks.sentence("3: IllegalStateException if the game is over", this::tellWhenOver);
        checks.sentence("3: IllegalStateException if a move is to be made", this::tellBeforeMove);
    }

    private void move() {
        checks.sentence("4: place: 0 to 14", () -> eachFrom(0, 14, this::moves));
        checks.sentence("4: Returns the place that it comes to", this::moveAnswers);
        checks.sentence("4: IllegalArgumentException if place is out of range",
                () -> refusedOutside("move", 0, 14, RoyalUrTable::move));
        checks.sentence("4: IllegalStateException if no move is to be made", this::moveUntold);
        checks.sentence("4: IllegalStateException if no piece at this place can move", this::moveImpossible);
    }

    private void turnMarksWinner() {
        checks.sentence("5: the side that is to throw, or to move", this::turnOf);
        checks.sentence("6: the marks that were told, if a move is to be made", this::marksTold);
        checks.sentence("6: NONE otherwise", this::marksUntold);
        checks.sentence("7: the side that has won", this::winnerIs);
        checks.sentence("7: NONE if the game is not over", this::noWinner);
    }

    private void countsOfSides() {
        checks.sentence("8: Counts the pieces of a side at a place of its way", this::countsAt);
        checks.sentence("8: IllegalArgumentException if side is out of range",
                () -> refusedOutside("at, side", 0, 1, (table, side) -> table.at(side, 0)));
        checks.sentence("8: IllegalArgumentException if place is out of range",
                () -> refusedOutside("at, place", 0, 15, (table, place) -> table.at(1, place)));
        checks.sentence("9: IllegalArgumentException if side is out of range",
                () -> refusedOutside("progress", 0, 1, RoyalUrTable::progress));
        checks.sentence("10: how many pieces of a side have been captured since the game began", this::capturedSince);
        checks.sentence("10: IllegalArgumentException if side is out of range",
                () -> refusedOutside("captured", 0, 1, RoyalUrTable::captured));
        checks.sentence("11: how many throws were told since the game began", this::throwsToldSince);
    }

    private void movesThatArePossible() {
        checks.sentence("12: how many moves are possible with the throw that was told", this::countsMoves);
        checks.sentence("12: 0 if no move is to be made", this::noMoves);
        checks.sentence("13: from 0 on, by rising places", this::risingPlaces);
        checks.sentence("13: NONE if there is none with this index", this::noneWithThisIndex);
        checks.sentence("14: whether a move from a place is possible, and captures a piece", this::possibleAndCaptures);
        checks.sentence("14: place: 0 to 14", () -> eachFrom(0, 14, this::capturesFrom));
        checks.sentence("14: IllegalArgumentException if place is out of range",
                () -> refusedOutside("captures", 0, 14, RoyalUrTable::captures));
    }

    private void worths() {
        checks.sentence("15: the worth of the position, for side 0", this::worthForSide0);
        checks.sentence("15: that behind the throw that was told, with the depth as that of the position behind a move",
                this::worthOfMoves);
        checks.sentence("15: depth: 0 to 3", () -> eachFrom(0, 3, this::worthWithDepth));
        checks.sentence("15: if the game is over, 1000000000 if side 0 has won, otherwise 0",
                () -> eachFrom(0, 3, this::worthWhenOver));
        checks.sentence("15: IllegalArgumentException if depth is out of range",
                () -> refusedOutside("worth", 0, 3, RoyalUrTable::worth));
        checks.sentence("16: for the side whose turn it is, as a double, divided by 1000000000", this::chanceOfTurn);
        checks.sentence("16: 0.0 to 1.0", this::chanceFurthest);
        checks.sentence("16: if the game is over, 0.0", () -> eachFrom(0, 3, this::chanceWhenOver));
        checks.sentence("16: IllegalArgumentException if depth is out of range",
                () -> refusedOutside("chance", 0, 3, RoyalUrTable::chance));
    }

    private void ranked() {
        checks.sentence("17: by falling worths behind them, for the side that moves, with a depth",
                this::byFallingWorths);
        checks.sentence("17: those with the same worth by rising places", this::sameWorths);
        checks.sentence("17: NONE if there are not so many", this::notSoMany);
        checks.sentence("17: IllegalArgumentException if depth is out of range",
                () -> refusedOutside("ranked, depth", 0, 3, (table, depth) -> table.ranked(depth, 0)));
        checks.sentence("17: IllegalArgumentException if rank is below 0", this::rankBelow0);
    }

    private void endings() {
        checks.sentence("18: rounds: 0 to 60", () -> endingRange("ending", 60, RoyalUrTable::ending));
        checks.sentence("18: own: 0 to 14", () -> endingOwn("ending", RoyalUrTable::ending));
        checks.sentence("18: other: 0 to 14", () -> endingOther("ending", RoyalUrTable::ending));
        checks.sentence("18: IllegalArgumentException if both are the same shared place",
                () -> endingsAtOnePlace("ending", RoyalUrTable::ending));
        checks.sentence("18: from a table", this::endingInAnyOrder);
        checks.sentence("19: rounds: 0 to 5", () -> endingRange("endingByThrows", 5, RoyalUrTable::endingByThrows));
        checks.sentence("19: own: 0 to 14", () -> endingOwn("endingByThrows", RoyalUrTable::endingByThrows));
        checks.sentence("19: other: 0 to 14", () -> endingOther("endingByThrows", RoyalUrTable::endingByThrows));
        checks.sentence("19: IllegalArgumentException if both are the same shared place",
                () -> endingsAtOnePlace("endingByThrows", RoyalUrTable::endingByThrows));
        checks.sentence("19: Returns the same as ending()", this::sameAsEnding);
    }

    // ---- helpers

    private interface WithNumber {
        void check(int number);
    }

    private static void eachFrom(int least, int most, WithNumber body) {
        for (int number = least; number <= most; number++) {
            body.check(number);
        }
    }

    private interface CallWithNumber {
        Object run(RoyalUrTable table, int number);
    }

    /** Refused just outside and far outside, in positions of each kind; just inside never for its argument. */
    private void refusedOutside(String name, int least, int most, CallWithNumber call) {
        for (Supplier<RoyalUrTable> kind : LedGame.kinds()) {
            RoyalUrTable table = kind.get();
            for (int wrong : new int[] {least - 1, most + 1, LOWEST, HIGHEST, LOWEST + least, HIGHEST - most}) {
                checks.refusedWithoutChange(table, name + " " + wrong, ARGUMENT, () -> call.run(table, wrong));
            }
            for (int right : new int[] {least, most}) {
                Object outcome = Checks.outcome(() -> call.run(kind.get(), right));
                boolean refused = outcome.equals("throws IllegalArgumentException");
                checks.same(name + " " + right + " is in range", refused, false);
            }
        }
    }

    private Object begun(RoyalUrTable table, int pieces) {
        table.begin(pieces);
        return "";
    }

    private static String stateAtFirst(int pieces) {
        String side = pieces + "000000000000000 progress 0 captured 0 ";
        return side + side + "turn 0 marks -1 winner -1 throws 0 moves";
    }

    /** Side 0 has pieces at 5, 1 and 0, side 1 at 11, 2 and 0, and 2 marks were told. */
    private static RoyalUrTable threeMoves() {
        return new LedGame(3).bring(0, 5).bring(1, 11).bring(0, 1).bring(1, 2).told(0, 2).table;
    }

    /** The same for side 1, with other places. */
    private static RoyalUrTable threeMovesOfSide1() {
        return new LedGame(3).bring(0, 10).bring(1, 6).bring(0, 8).bring(1, 3).told(1, 1).table;
    }

    private static RoyalUrTable capturing() {
        return new LedGame(2).bring(0, 4).bring(1, 5).told(0, 1).table;
    }

    private static RoyalUrTable capturingBySide1() {
        return new LedGame(2).bring(1, 4).bring(0, 5).told(1, 1).table;
    }

    /** Of the pieces at 9, 5, 1 and 0 that at 5 can't move, as the other side is at place 8. */
    private static RoyalUrTable besideABlockedOne(int side) {
        return new LedGame(4).bring(side, 9).bring(1 - side, 8).bring(side, 5).bring(side, 1).told(side, 3).table;
    }

    private static RoyalUrTable winning(int side) {
        return new LedGame(2).bringHome(side, 1).bring(side, 14).told(side, 1).table;
    }

    /** One move of side 0 comes to a rosette, another one home. */
    private static RoyalUrTable rosetteOrHome() {
        return new LedGame(4).bring(0, 14).bring(0, 13).bring(0, 7).told(0, 1).table;
    }

    private static List<Supplier<RoyalUrTable>> withMoveToBeMade() {
        return List.of(PromiseBoundariesTest::threeMoves, PromiseBoundariesTest::threeMovesOfSide1,
                PromiseBoundariesTest::capturing, PromiseBoundariesTest::capturingBySide1, () -> winning(0),
                () -> winning(1), PromiseBoundariesTest::rosetteOrHome, () -> besideABlockedOne(0),
                () -> besideABlockedOne(1));
    }

    private static List<RoyalUrTable> withoutMoveToBeMade() {
        return List.of(new RoyalUrTable(), new LedGame(2).told(0, 0).table, new LedGame(2).bring(0, 3).table,
                new LedGame(2).bring(0, 4).table, new LedGame(1).bring(0, 14).told(0, 2).table, LedGame.wonBy(0),
                LedGame.wonBy(1), begunAgain());
    }

    private static RoyalUrTable begunAgain() {
        RoyalUrTable table = threeMoves();
        table.begin(3);
        return table;
    }

    // ---- promises 1 and 2

    private void newObject() {
        checks.same("state", LedGame.state(new RoyalUrTable()), stateAtFirst(2));
    }

    private void beginsAnew() {
        for (Supplier<RoyalUrTable> kind : LedGame.kinds()) {
            RoyalUrTable table = kind.get();
            table.begin(3);
            checks.same("state", LedGame.state(table), stateAtFirst(3));
            checks.same("worth", table.worth(1), 508000000);
            checks.same("it can be played", table.tell(4), 1);
        }
    }

    private void begins(int pieces) {
        RoyalUrTable table = new RoyalUrTable();
        table.begin(pieces);
        checks.same("begin " + pieces, LedGame.state(table), stateAtFirst(pieces));
    }

    // ---- promise 3

    private void tells(int marks) {
        RoyalUrTable table = new RoyalUrTable();
        checks.same("tell " + marks, table.tell(marks), marks == 0 ? 0 : 1);
        checks.same("marks", table.marks(), marks == 0 ? NONE : marks);
        checks.same("throws", table.throwsTold(), 1);
    }

    private void tellWithoutMove() {
        for (int side = 0; side < 2; side++) {
            RoyalUrTable table = new LedGame(1).bring(side, 14).turnTo(side).table;
            checks.same("tell 2", table.tell(2), 0);
            checks.same("turn", table.turn(), 1 - side);
            checks.same("marks", table.marks(), NONE);
            checks.same("it may be told a throw", table.tell(1), 1);
        }
    }

    private void tellWithMove() {
        for (int side = 0; side < 2; side++) {
            RoyalUrTable table = new LedGame(1).bring(side, 14).turnTo(side).table;
            checks.same("tell 1", table.tell(1), 1);
            checks.same("turn", table.turn(), side);
            checks.same("marks", table.marks(), 1);
            checks.same("the move", table.move(14), 15);
        }
    }

    private void tellCounts() {
        checks.same("from 5, 1 and 0", threeMoves().moves(), 3);
        LedGame led = new LedGame(4).bring(0, 14).bring(0, 9).bring(0, 2).turnTo(0);
        checks.same("from 14, 9, 2 and 0", led.table.tell(1), 4);
        led = new LedGame(4).bring(0, 14).bring(0, 9).bring(0, 2).turnTo(0);
        checks.same("from 9 and 2, to 4 as well", led.table.tell(4), 3);
        led = new LedGame(4).bring(0, 14).bring(0, 12).bring(0, 2).turnTo(0);
        checks.same("from 2 alone", led.table.tell(2), 1);
    }

    private void tellCountsPlace0Once(int pieces) {
        checks.same("all at place 0", new LedGame(pieces).table.tell(2), 1);
        checks.same("one of " + pieces + " at place 4", new LedGame(pieces).bring(0, 4).table.tell(3),
                pieces == 1 ? 1 : 2);
    }

    private void tellWhenOver() {
        for (int side = 0; side < 2; side++) {
            RoyalUrTable table = LedGame.wonBy(side);
            checks.refusedWithoutChange(table, "tell 1", STATE, () -> table.tell(1));
            checks.refusedWithoutChange(table, "tell 0", STATE, () -> table.tell(0));
        }
    }

    private void tellBeforeMove() {
        for (Supplier<RoyalUrTable> position : withMoveToBeMade()) {
            RoyalUrTable table = position.get();
            checks.refusedWithoutChange(table, "tell 0", STATE, () -> table.tell(0));
            checks.refusedWithoutChange(table, "tell 4", STATE, () -> table.tell(4));
        }
    }

    // ---- promise 4

    private void moves(int place) {
        RoyalUrTable table = new LedGame(2).bring(1, place).told(1, 1).table;
        checks.same("move from " + place, table.move(place), place + 1);
        checks.same("no longer at " + place, table.at(1, place), place == 0 ? 1 : 0);
        checks.same("it is there", table.at(1, place + 1), 1);
        checks.same("marks", table.marks(), NONE);
    }

    private void moveAnswers() {
        for (int marks = 1; marks <= 4; marks++) {
            for (int from = 0; from + marks <= 15; from++) {
                checks.same("from " + from + " with " + marks, new LedGame(1).bring(0, from).told(0, marks)
                        .table.move(from), from + marks);
            }
        }
    }

    private void moveUntold() {
        for (RoyalUrTable table : withoutMoveToBeMade()) {
            for (int place = 0; place <= 14; place++) {
                int from = place;
                checks.refusedWithoutChange(table, "move " + place, STATE, () -> table.move(from));
            }
        }
    }

    private void moveImpossible() {
        RoyalUrTable table = new LedGame(4).bring(0, 14).bring(0, 6).bring(1, 8).bring(0, 4).told(0, 2).table;
        checks.same("moves", table.moves(), 1);
        for (int place : new int[] {1, 2, 4, 6, 8, 13, 14}) {
            checks.refusedWithoutChange(table, "move " + place, STATE, () -> table.move(place));
        }
        checks.same("the one that can", table.move(0), 2);
    }

    // ---- promises 5 to 7

    private void turnOf() {
        checks.same("at first", new RoyalUrTable().turn(), 0);
        for (int side = 0; side < 2; side++) {
            checks.same("to throw", new LedGame(2).turnTo(side).table.turn(), side);
            checks.same("to move", new LedGame(2).told(side, 4).table.turn(), side);
            checks.same("behind a move", new LedGame(2).bring(side, 3).table.turn(), 1 - side);
            checks.same("behind a rosette", new LedGame(2).bring(side, 4).table.turn(), side);
            checks.same("behind a throw without a move", new LedGame(2).told(side, 0).table.turn(), 1 - side);
        }
    }

    private void marksTold() {
        for (int marks = 1; marks <= 4; marks++) {
            checks.same("side 0", new LedGame(2).told(0, marks).table.marks(), marks);
            checks.same("side 1", new LedGame(2).told(1, marks).table.marks(), marks);
        }
    }

    private void marksUntold() {
        for (RoyalUrTable table : withoutMoveToBeMade()) {
            checks.same(LedGame.state(table), table.marks(), NONE);
        }
    }

    private void winnerIs() {
        for (int side = 0; side < 2; side++) {
            RoyalUrTable table = winning(side);
            table.move(14);
            checks.same("of two pieces", table.winner(), side);
            checks.same("of one piece", LedGame.wonBy(side).winner(), side);
        }
    }

    private void noWinner() {
        for (int side = 0; side < 2; side++) {
            checks.same("the last move is to be made", winning(side).winner(), NONE);
            RoyalUrTable table = LedGame.wonBy(side);
            table.begin(1);
            checks.same("begun anew", table.winner(), NONE);
        }
        checks.same("three of four at home on both sides",
                new LedGame(4).bringHome(0, 3).bringHome(1, 3).table.winner(), NONE);
        checks.same("at first", new RoyalUrTable().winner(), NONE);
    }

    // ---- promises 8 to 11

    private void countsAt() {
        for (int place = 0; place <= 15; place++) {
            for (int side = 0; side < 2; side++) {
                RoyalUrTable table = new LedGame(2).bring(side, place).table;
                checks.same("at " + side + " " + place, table.at(side, place), place == 0 ? 2 : 1);
                checks.same("the other side", table.at(1 - side, place), place == 0 ? 2 : 0);
            }
        }
        checks.same("four at place 0", new LedGame(4).table.at(1, 0), 4);
        checks.same("four at home", new LedGame(4).bringHome(1, 4).table.at(1, 15), 4);
    }

    private void capturedSince() {
        RoyalUrTable table = capturing();
        checks.same("before the move", table.captured(1), 0);
        table.move(4);
        checks.same("behind it", table.captured(1), 1);
        checks.same("not of the side that captures", table.captured(0), 0);
        RoyalUrTable side1 = capturingBySide1();
        side1.move(4);
        checks.same("of side 0", side1.captured(0), 1);
        checks.same("not of side 1", side1.captured(1), 0);
        checks.same("more than there are pieces", new LedGame(1).bring(1, 6).bring(0, 6).bring(1, 7).walk(0, 6, 7)
                .bring(1, 9).walk(0, 7, 9).table.captured(1), 3);
        table.begin(2);
        checks.same("begun anew, side 1", table.captured(1), 0);
        side1.begin(1);
        checks.same("begun anew, side 0", side1.captured(0), 0);
    }

    private void throwsToldSince() {
        RoyalUrTable table = new RoyalUrTable();
        table.tell(0);
        table.tell(0);
        checks.same("0 marks", table.throwsTold(), 2);
        table.tell(3);
        checks.same("with a move to be made", table.throwsTold(), 3);
        checks.refused("tell 3 again", STATE, () -> table.tell(3));
        checks.refused("tell 5", ARGUMENT, () -> table.tell(5));
        checks.same("refused ones do not count", table.throwsTold(), 3);
        table.move(0);
        checks.same("a move does not count", table.throwsTold(), 3);
        table.begin(2);
        checks.same("begun anew", table.throwsTold(), 0);
    }

    // ---- promises 12 to 14

    private void countsMoves() {
        checks.same("one", new LedGame(4).told(0, 2).table.moves(), 1);
        checks.same("three", threeMoves().moves(), 3);
        checks.same("three of side 1", threeMovesOfSide1().moves(), 3);
        checks.same("one of four can't", besideABlockedOne(0).moves(), 3);
        checks.same("one of four can't, side 1", besideABlockedOne(1).moves(), 3);
        checks.same("from 14 and 0", new LedGame(2).bring(0, 14).told(0, 1).table.moves(), 2);
    }

    private void noMoves() {
        for (RoyalUrTable table : withoutMoveToBeMade()) {
            checks.same(LedGame.state(table), table.moves(), 0);
        }
    }

    private static String places(RoyalUrTable table) {
        StringBuilder text = new StringBuilder();
        for (int index = 0; index < 5; index++) {
            text.append(table.moveAt(index)).append(' ');
        }
        return text.toString();
    }

    private void risingPlaces() {
        checks.same("0, 1 and 5", places(threeMoves()), "0 1 5 -1 -1 ");
        checks.same("0, 2, 9 and 14", places(new LedGame(4).bring(0, 14).bring(0, 9).bring(0, 2).told(0, 1).table),
                "0 2 9 14 -1 ");
        checks.same("14 alone", places(new LedGame(1).bring(1, 14).told(1, 1).table), "14 -1 -1 -1 -1 ");
        checks.same("those that can't move are left out",
                places(new LedGame(4).bring(0, 14).bring(0, 12).bring(0, 2).told(0, 2).table), "2 -1 -1 -1 -1 ");
    }

    private void noneWithThisIndex() {
        for (int index : new int[] {-1, 3, 4, 15, LOWEST, HIGHEST}) {
            checks.same("index " + index, threeMoves().moveAt(index), NONE);
        }
        for (RoyalUrTable table : withoutMoveToBeMade()) {
            for (int index : new int[] {-1, 0, 1, LOWEST, HIGHEST}) {
                checks.same("index " + index + ", no move is to be made", table.moveAt(index), NONE);
            }
        }
    }

    private void possibleAndCaptures() {
        checks.same("it does", capturing().captures(4), true);
        checks.same("it does, side 1", capturingBySide1().captures(4), true);
        checks.same("it is possible and captures nothing", capturing().captures(0), false);
        checks.same("there is no piece", new LedGame(2).bring(0, 4).bring(1, 6).told(0, 1).table.captures(5), false);
        checks.same("there is one of the other side", capturing().captures(5), false);
        checks.same("place 8", new LedGame(2).bring(0, 4).bring(1, 8).told(0, 4).table.captures(4), false);
        checks.same("place 13 of its own", new LedGame(2).bring(1, 13).bring(0, 12).told(0, 1).table.captures(12),
                false);
        checks.same("place 4 of its own", new LedGame(2).bring(1, 4).bring(0, 3).told(0, 1).table.captures(3), false);
        checks.same("beyond home", new LedGame(2).bring(0, 14).told(0, 2).table.captures(14), false);
        checks.same("before the throw", new LedGame(2).bring(0, 4).bring(1, 5).turnTo(0).table.captures(4), false);
        RoyalUrTable behind = capturing();
        behind.move(4);
        checks.same("behind the move", behind.captures(4), false);
    }

    /** With one mark: places 4 to 11 lead to a shared place, of which place 8 is safe. */
    private void capturesFrom(int place) {
        int to = place + 1;
        LedGame led = new LedGame(2).bring(1, Math.min(to, 14)).bring(0, place).turnTo(0);
        led.table.tell(1);
        checks.same("captures " + place, led.table.captures(place), to >= 5 && to <= 12 && to != 8);
    }

    // ---- promises 15 and 16

    private void worthForSide0() {
        for (int turn = 0; turn < 2; turn++) {
            checks.same("side 0 ahead", new LedGame(2).bring(0, 3).turnTo(turn).table.worth(0), 512000000);
            checks.same("side 1 ahead", new LedGame(2).bring(1, 3).turnTo(turn).table.worth(0), 488000000);
        }
        checks.same("side 0 is to throw", new LedGame(2).turnTo(0).table.worth(1), 508000000);
        checks.same("side 1 is to throw", new LedGame(2).turnTo(1).table.worth(1), 492000000);
    }

    /** The worths for side 0 behind each of the moves that are possible. */
    private static List<Integer> worthsBehind(Supplier<RoyalUrTable> position, int depth) {
        List<Integer> worths = new ArrayList<>();
        for (int index = 0; index < position.get().moves(); index++) {
            RoyalUrTable behind = position.get();
            behind.move(behind.moveAt(index));
            worths.add(behind.worth(depth));
        }
        return worths;
    }

    private void worthOfMoves() {
        for (Supplier<RoyalUrTable> position : withMoveToBeMade()) {
            RoyalUrTable table = position.get();
            for (int depth = 0; depth <= 3; depth++) {
                List<Integer> worths = worthsBehind(position, depth);
                int due = table.turn() == 0 ? 0 : WHOLE;
                for (int worth : worths) {
                    due = table.turn() == 0 ? Math.max(due, worth) : Math.min(due, worth);
                }
                checks.same("depth " + depth + ", moves to " + worths, table.worth(depth), due);
            }
        }
    }

    private void worthWithDepth(int depth) {
        RoyalUrTable table = new LedGame(1).bring(0, 2).bring(1, 7).turnTo(0).table;
        checks.same("depth " + depth, table.worth(depth), table.ending(2, 7, 40 + depth));
        RoyalUrTable side1 = new LedGame(1).bring(0, 2).bring(1, 7).turnTo(1).table;
        checks.same("depth " + depth + ", side 1", side1.worth(depth), WHOLE - side1.ending(7, 2, 40 + depth));
    }

    private void worthWhenOver(int depth) {
        checks.same("side 0 has won", LedGame.wonBy(0).worth(depth), WHOLE);
        checks.same("side 1 has won", LedGame.wonBy(1).worth(depth), 0);
        checks.same("side 1 has won with four", new LedGame(4).bringHome(1, 4).table.worth(depth), 0);
    }

    private void chanceOfTurn() {
        List<Supplier<RoyalUrTable>> positions = new ArrayList<>(withMoveToBeMade());
        positions.addAll(LedGame.kinds().subList(0, 5));
        for (Supplier<RoyalUrTable> position : positions) {
            RoyalUrTable table = position.get();
            for (int depth = 0; depth <= 3; depth++) {
                int worth = table.turn() == 0 ? table.worth(depth) : WHOLE - table.worth(depth);
                checks.same("depth " + depth, table.chance(depth), worth / 1000000000.0);
            }
        }
        checks.same("side 1, 3 ahead", new LedGame(2).bring(1, 3).turnTo(1).table.chance(0), 0.512);
        checks.same("no whole number of thousandths", new LedGame(1).table.chance(0), 0.530049834);
    }

    private void chanceFurthest() {
        for (int side = 0; side < 2; side++) {
            checks.same("the move wins", winning(side).chance(0), 1.0);
            checks.same("the move wins, depth 3", winning(side).chance(3), 1.0);
            checks.same("has lost", LedGame.wonBy(side).chance(1), 0.0);
        }
    }

    private void chanceWhenOver(int depth) {
        checks.same("side 0 has won", LedGame.wonBy(0).chance(depth), 0.0);
        checks.same("side 1 has won", LedGame.wonBy(1).chance(depth), 0.0);
    }

    // ---- promise 17

    private static String order(RoyalUrTable table, int depth) {
        StringBuilder text = new StringBuilder();
        for (int rank = 0; rank < table.moves(); rank++) {
            text.append(table.ranked(depth, rank)).append(' ');
        }
        return text.toString();
    }

    /** The places by falling worths behind the moves, read from the games in which these were made. */
    private static String orderDue(Supplier<RoyalUrTable> position, int depth) {
        RoyalUrTable table = position.get();
        List<Integer> worths = worthsBehind(position, depth);
        List<Integer> indices = new ArrayList<>();
        for (int index = 0; index < worths.size(); index++) {
            indices.add(index);
        }
        int direction = table.turn() == 0 ? -1 : 1;
        indices.sort((a, b) -> direction * Integer.compare(worths.get(a), worths.get(b)));
        StringBuilder text = new StringBuilder();
        for (int index : indices) {
            text.append(table.moveAt(index)).append(' ');
        }
        return text.toString();
    }

    private void byFallingWorths() {
        for (Supplier<RoyalUrTable> position : withMoveToBeMade()) {
            for (int depth = 0; depth <= 3; depth++) {
                RoyalUrTable table = position.get();
                checks.same("depth " + depth + " of " + LedGame.state(table), order(table, depth),
                        orderDue(position, depth));
            }
        }
        checks.same("depth 1", order(threeMoves(), 1), "5 0 1 ");
        checks.same("depth 3", order(threeMoves(), 3), "5 1 0 ");
        checks.same("side 1, depth 2", order(threeMovesOfSide1(), 2), "3 6 0 ");
        checks.same("the capture first", order(capturing(), 0), "4 0 ");
        checks.same("the capture first, side 1", order(capturingBySide1(), 0), "4 0 ");
        // Behind 9 to 12 and 0 to 3 the difference is the same; 1 to 4 leads to a rosette.
        checks.same("one that can't move is left out", order(besideABlockedOne(0), 0), "0 1 9 ");
        checks.same("one that can't move is left out, side 1", order(besideABlockedOne(1), 0), "0 1 9 ");
        checks.same("with depth 1 the rosette counts", besideABlockedOne(0).ranked(1, 0), 1);
        checks.same("the move that wins first", order(new LedGame(1).bring(0, 14).told(0, 1).table, 0), "14 ");
        // Just one of side 0 and one of side 1 are not home behind 14 to 15: the ending with 40 rounds.
        Supplier<RoyalUrTable> toAnEnding = () -> new LedGame(2).bringHome(1, 1).bring(0, 14).told(0, 1).table;
        checks.same("to an ending", order(toAnEnding.get(), 0), orderDue(toAnEnding, 0));
        Supplier<RoyalUrTable> inEndings =
                () -> new LedGame(3).bringHome(1, 2).bringHome(0, 1).bring(0, 14).bring(0, 12).told(0, 3).table;
        checks.same("in an ending", order(inEndings.get(), 0), orderDue(inEndings, 0));
    }

    private void sameWorths() {
        checks.same("0, 1 and 5 with depth 0", order(threeMoves(), 0), "0 1 5 ");
        checks.same("0, 3 and 6 with depth 0, side 1", order(threeMovesOfSide1(), 0), "0 3 6 ");
    }

    private void notSoMany() {
        for (int depth = 0; depth <= 3; depth++) {
            for (int rank : new int[] {3, 4, 15, HIGHEST}) {
                checks.same("depth " + depth + " rank " + rank, threeMoves().ranked(depth, rank), NONE);
            }
            checks.same("the last one", threeMoves().ranked(depth, 2) == NONE, false);
            checks.same("the second one of one", new LedGame(4).told(1, 3).table.ranked(depth, 1), NONE);
            for (RoyalUrTable table : withoutMoveToBeMade()) {
                checks.same("no move is to be made", table.ranked(depth, 0), NONE);
            }
        }
    }

    private void rankBelow0() {
        for (Supplier<RoyalUrTable> kind : LedGame.kinds()) {
            RoyalUrTable table = kind.get();
            for (int rank : new int[] {-1, -2, LOWEST}) {
                checks.refusedWithoutChange(table, "rank " + rank, ARGUMENT, () -> table.ranked(3, rank));
                checks.refusedWithoutChange(table, "depth 4, rank " + rank, ARGUMENT, () -> table.ranked(4, rank));
            }
        }
    }

    // ---- promises 18 and 19

    private interface EndingCall {
        int worth(RoyalUrTable table, int own, int other, int rounds);
    }

    private void endingRange(String name, int most, EndingCall call) {
        refusedOutside(name + ", rounds", 0, most, (table, rounds) -> call.worth(table, 3, 9, rounds));
        PlainGame plain = new PlainGame();
        eachFrom(0, most, rounds -> checks.same(name + " 3 9 " + rounds,
                call.worth(new RoyalUrTable(), 3, 9, rounds), plain.ending(3, 9, rounds)));
    }

    private void endingOwn(String name, EndingCall call) {
        refusedOutside(name + ", own", 0, 14, (table, own) -> call.worth(table, own, 3, 2));
        refusedOutside(name + ", own with 0 rounds", 0, 14, (table, own) -> call.worth(table, own, 3, 0));
    }

    private void endingOther(String name, EndingCall call) {
        refusedOutside(name + ", other", 0, 14, (table, other) -> call.worth(table, 3, other, 2));
        refusedOutside(name + ", other with 0 rounds", 0, 14, (table, other) -> call.worth(table, 3, other, 0));
    }

    private void endingsAtOnePlace(String name, EndingCall call) {
        RoyalUrTable table = new RoyalUrTable();
        for (int place = 0; place <= 14; place++) {
            int both = place;
            for (int rounds : new int[] {0, 1, 5}) {
                Object outcome = Checks.outcome(() -> call.worth(table, both, both, rounds));
                boolean refused = outcome.equals("throws IllegalArgumentException");
                checks.same(name + ", both at " + place + ", rounds " + rounds, refused, place >= 5 && place <= 12);
            }
        }
        checks.same(name + ", at 5 and 12", Checks.outcome(() -> call.worth(table, 5, 12, 0)), WHOLE / 2);
    }

    /** The order in which worths are asked for makes no difference. */
    private void endingInAnyOrder() {
        RoyalUrTable falling = new RoyalUrTable();
        RoyalUrTable rising = new RoyalUrTable();
        PlainGame plain = new PlainGame();
        for (int rounds = 60; rounds >= 0; rounds--) {
            checks.same("falling, rounds " + rounds, falling.ending(13, 14, rounds), plain.ending(13, 14, rounds));
            checks.same("rising, rounds " + (60 - rounds), rising.ending(13, 14, 60 - rounds),
                    plain.ending(13, 14, 60 - rounds));
            checks.same("at once, rounds " + rounds, new RoyalUrTable().ending(13, 14, rounds),
                    plain.ending(13, 14, rounds));
        }
        checks.same("60 rounds again", falling.ending(13, 14, 60), 720496895);
    }

    private void sameAsEnding() {
        RoyalUrTable table = new RoyalUrTable();
        for (int own = 0; own <= 14; own++) {
            for (int other = 0; other <= 14; other++) {
                for (int rounds = 0; rounds <= 5 && (own != other || own < 5 || own > 12); rounds++) {
                    checks.same(own + " " + other + " " + rounds, table.endingByThrows(own, other, rounds),
                            table.ending(own, other, rounds));
                }
            }
        }
    }
}
