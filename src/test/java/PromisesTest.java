/** For each promise of the document: ordinary inputs, the edges that it names, and wrong inputs. */
public final class PromisesTest {
    private static final int NONE = RoyalUrTable.NONE;
    private static final int WHOLE = 1000000000;
    private static final Class<IllegalArgumentException> ARGUMENT = IllegalArgumentException.class;
    private static final Class<IllegalStateException> STATE = IllegalStateException.class;

    private final Checks checks = new Checks();

    public static void main(String[] args) {
        PromisesTest test = new PromisesTest();
        test.promise1ANewObject();
        test.promise2Begin();
        test.promise3Tell();
        test.promise4Move();
        test.promise4Captures();
        test.promise4EndOfTheGame();
        test.promise5Turn();
        test.promise6Marks();
        test.promise7Winner();
        test.promise8At();
        test.promise9Progress();
        test.promise10Captured();
        test.promise11ThrowsTold();
        test.promise12Moves();
        test.promise13MoveAt();
        test.promise14Captures();
        test.promise15Worth();
        test.promise15WorthBehindThrow();
        test.promise15WorthOfEndings();
        test.promise16Chance();
        test.promise17Ranked();
        test.promise18Ending();
        test.promise19EndingByThrows();
        test.worthsDoNotChangeTheGame();
        test.checks.finish("PromisesTest");
    }

    /** A game with throws and moves behind it: marks, place, marks, place; NONE as place where no move follows. */
    private static RoyalUrTable played(int pieces, int... marksAndPlaces) {
        RoyalUrTable table = new RoyalUrTable();
        table.begin(pieces);
        for (int i = 0; i < marksAndPlaces.length; i += 2) {
            table.tell(marksAndPlaces[i]);
            if (marksAndPlaces[i + 1] != NONE) {
                table.move(marksAndPlaces[i + 1]);
            }
        }
        return table;
    }

    /** Side 0, with one piece, went from rosette to rosette up to place 12; side 1 is to throw. */
    private static RoyalUrTable leadingAt12() {
        return played(1, 4, 0, 4, 4, 4, 8);
    }

    /** Side 0 is at place 12 and to throw, side 1 has not moved. */
    private static RoyalUrTable nearHome() {
        return played(1, 4, 0, 4, 4, 4, 8, 0, NONE);
    }

    private static RoyalUrTable wonBySide0() {
        return played(1, 4, 0, 4, 4, 4, 8, 0, NONE, 3, 12);
    }

    private static RoyalUrTable wonBySide1() {
        return played(1, 0, NONE, 4, 0, 4, 4, 4, 8, 0, NONE, 3, 12);
    }

    private static Object begun(RoyalUrTable table, int pieces) {
        table.begin(pieces);
        return "";
    }

    private static String stateAtBegin(int pieces) {
        String side = pieces + "000000000000000 progress 0 captured 0 ";
        return side + side + "turn 0 marks -1 winner -1 throws 0 moves";
    }

    private void promise1ANewObject() {
        checks.same("a new object", LedGame.state(new RoyalUrTable()), stateAtBegin(2));
        RoyalUrTable one = new RoyalUrTable();
        one.tell(4);
        checks.same("a new object beside a used one", LedGame.state(new RoyalUrTable()), stateAtBegin(2));
    }

    private void promise2Begin() {
        for (int pieces = 1; pieces <= 4; pieces++) {
            checks.same("begin " + pieces, LedGame.state(played(pieces)), stateAtBegin(pieces));
            RoyalUrTable captured = played(1, 4, 0, 1, 4, 4, 0, 1, 4, 4, 0, 1, 4);
            captured.begin(pieces);
            checks.same("begin behind a capture on each side", LedGame.state(captured), stateAtBegin(pieces));
            RoyalUrTable told = played(2, 3, NONE);
            told.begin(pieces);
            checks.same("begin while a move is to be made", LedGame.state(told), stateAtBegin(pieces));
            RoyalUrTable over = wonBySide0();
            over.begin(pieces);
            checks.same("begin behind the end", LedGame.state(over), stateAtBegin(pieces));
            checks.same("a throw in the game that begins", over.tell(4), 1);
        }
        for (int pieces : new int[] {0, 5, -1, Integer.MIN_VALUE, Integer.MAX_VALUE}) {
            RoyalUrTable table = played(3, 3, 0, 2, NONE);
            checks.refusedWithoutChange(table, "begin " + pieces, ARGUMENT, () -> begun(table, pieces));
        }
    }

    private void promise3Tell() {
        RoyalUrTable table = new RoyalUrTable();
        checks.same("tell 0", table.tell(0), 0);
        checks.same("behind 0 marks the other side throws", table.turn(), 1);
        checks.same("pieces at place 0 count as one", table.tell(2), 1);
        checks.same("a move is to be made by the side that threw", table.turn(), 1);
        checks.refusedWithoutChange(table, "tell while a move is to be made", STATE, () -> table.tell(2));
        for (int marks : new int[] {-1, 5, Integer.MIN_VALUE, Integer.MAX_VALUE}) {
            checks.refusedWithoutChange(table, "tell " + marks + " before the state is looked at", ARGUMENT,
                    () -> table.tell(marks));
            RoyalUrTable fresh = new RoyalUrTable();
            checks.refusedWithoutChange(fresh, "tell " + marks, ARGUMENT, () -> fresh.tell(marks));
        }
        checks.same("a piece of one's own is in the way", played(2, 2, 0, 0, NONE).tell(2), 1);
        checks.same("two pieces can move", played(2, 2, 0, 0, NONE).tell(1), 2);
        checks.same("four pieces can move", played(4, 4, 0, 3, 0, 0, NONE, 2, 0, 0, NONE, 1, 0, 0, NONE).tell(4), 4);
        RoyalUrTable over = wonBySide0();
        checks.refusedWithoutChange(over, "tell when the game is over", STATE, () -> over.tell(1));
        checks.refusedWithoutChange(over, "tell 5 when the game is over", ARGUMENT, () -> over.tell(5));
        noMovePossible();
    }

    private void noMovePossible() {
        RoyalUrTable beyond = nearHome();
        checks.same("4 marks from place 12", beyond.tell(4), 0);
        checks.same("behind it the other side throws", beyond.turn(), 1);
        checks.same("behind it no move is to be made", beyond.marks(), NONE);
        RoyalUrTable rosette = played(1, 4, 0, 4, 4, 0, NONE, 4, 0);
        checks.same("place 8 held by the other side", rosette.tell(4), 0);
        checks.same("though its piece is on a rosette, the other side throws", rosette.turn(), 0);
        checks.same("place 8 held by the other side, place 4 by a piece of one's own",
                played(2, 4, 0, 4, 4, 0, NONE, 4, 0).tell(4), 0);
        checks.same("place 8 held by a piece of one's own", played(2, 4, 0, 4, 4, 4, 0).tell(4), 1);
    }

    private void promise4Move() {
        RoyalUrTable table = new RoyalUrTable();
        checks.refusedWithoutChange(table, "move before a throw", STATE, () -> table.move(0));
        table.tell(3);
        checks.refusedWithoutChange(table, "move from a place without a piece", STATE, () -> table.move(1));
        for (int place : new int[] {-1, 15, 16, Integer.MIN_VALUE, Integer.MAX_VALUE}) {
            checks.refusedWithoutChange(table, "move " + place, ARGUMENT, () -> table.move(place));
            RoyalUrTable fresh = new RoyalUrTable();
            checks.refusedWithoutChange(fresh, "move " + place + " before a throw", ARGUMENT, () -> fresh.move(place));
        }
        checks.same("move from 0 with 3", table.move(0), 3);
        checks.same("state behind it", LedGame.state(table),
                "1001000000000000 progress 3 captured 0 2000000000000000 progress 0 captured 0 "
                        + "turn 1 marks -1 winner -1 throws 1 moves");
        checks.refusedWithoutChange(table, "move again", STATE, () -> table.move(0));
        RoyalUrTable blocked = played(2, 2, 0, 0, NONE, 2, NONE);
        checks.refusedWithoutChange(blocked, "move onto a piece of one's own", STATE, () -> blocked.move(0));
        checks.same("move of the other one", blocked.move(2), 4);
        RoyalUrTable own = played(2, 3, 0, 2, NONE);
        checks.refusedWithoutChange(own, "move of a piece of the other side", STATE, () -> own.move(3));
        for (int[] game : new int[][] {{4, 0}, {4, 0, 4, 4}, {4, 0, 4, 4, 4, 8, 0, NONE, 2, 12}}) {
            checks.same("behind a rosette the same side throws", played(1, game).turn(), 0);
        }
    }

    private void promise4Captures() {
        RoyalUrTable taken = played(1, 4, 0, 1, 4, 4, 0, 1, 4);
        checks.same("a capture at place 5", LedGame.state(taken),
                "1000000000000000 progress 0 captured 1 0000010000000000 progress 5 captured 0 "
                        + "turn 0 marks -1 winner -1 throws 4 moves");
        RoyalUrTable at12 = played(1, 4, 0, 4, 4, 4, 8, 4, 0, 4, 4);
        at12.tell(4);
        checks.same("a move to place 12", at12.move(8), 12);
        checks.same("a capture at place 12", at12.at(0, 0), 1);
        RoyalUrTable at3 = played(1, 3, 0, 3, 0);
        checks.same("no capture at place 3", at3.at(0, 3) + at3.at(1, 3), 2);
        RoyalUrTable at4 = played(1, 4, 0, 0, NONE, 4, 0);
        checks.same("no capture at place 4", at4.at(0, 4) + at4.at(1, 4), 2);
        RoyalUrTable at13 = played(1, 4, 0, 4, 4, 3, 8, 4, 0, 4, 4, 0, NONE, 2, 11, 4, 8, 0, NONE, 1, 12);
        checks.same("no capture at place 13", at13.at(0, 13) + at13.at(1, 13), 2);
        RoyalUrTable at14 = played(1, 4, 0, 4, 4, 4, 8, 0, NONE, 2, 12, 0, NONE, 4, 0, 4, 4, 4, 8, 0, NONE, 2, 12);
        checks.same("no capture at place 14", at14.at(0, 14) + at14.at(1, 14), 2);
        checks.same("behind a rosette the same side throws, side 1 too", at14.turn(), 1);
        RoyalUrTable two = played(2, 4, 0, 1, 4, 4, 0, 1, 4);
        checks.same("the captured piece joins the one at place 0", two.at(0, 0), 2);
    }

    private void promise4EndOfTheGame() {
        RoyalUrTable table = nearHome();
        table.tell(3);
        checks.same("move home", table.move(12), 15);
        checks.same("state behind it", LedGame.state(table),
                "0000000000000001 progress 15 captured 0 1000000000000000 progress 0 captured 0 "
                        + "turn 1 marks -1 winner 0 throws 5 moves");
        checks.refusedWithoutChange(table, "move when the game is over", STATE, () -> table.move(0));
        checks.refusedWithoutChange(table, "move 15 when the game is over", ARGUMENT, () -> table.move(15));
        RoyalUrTable two = played(2, 4, 0, 4, 4, 4, 8, 0, NONE, 3, 12);
        checks.same("one of two pieces home is no end", two.winner(), NONE);
        checks.same("behind a move home the other side throws", two.turn(), 1);
        int[] rest = {0, NONE, 4, 0, 4, 4, 4, 8, 0, NONE, 3, 12};
        for (int i = 0; i < rest.length; i += 2) {
            two.tell(rest[i]);
            if (rest[i + 1] != NONE) {
                two.move(rest[i + 1]);
            }
        }
        checks.same("home has many", two.at(0, 15), 2);
        checks.same("both pieces home is the end", two.winner(), 0);
    }

    private void promise5Turn() {
        checks.same("at first", new RoyalUrTable().turn(), 0);
        checks.same("to move", played(2, 3, NONE).turn(), 0);
        checks.same("behind a move", played(2, 3, 0).turn(), 1);
        checks.same("behind a rosette", played(2, 4, 0).turn(), 0);
        checks.same("behind 0 marks", played(2, 0, NONE).turn(), 1);
        checks.same("behind 0 marks twice", played(2, 0, NONE, 0, NONE).turn(), 0);
        checks.same("behind the end, side 0 has won", wonBySide0().turn(), 1);
        checks.same("behind the end, side 1 has won", wonBySide1().turn(), 0);
    }

    private void promise6Marks() {
        checks.same("at first", new RoyalUrTable().marks(), NONE);
        for (int marks = 1; marks <= 4; marks++) {
            checks.same("told " + marks, played(2, marks, NONE).marks(), marks);
            checks.same("behind the move with " + marks, played(2, marks, 0).marks(), NONE);
        }
        checks.same("told 0", played(2, 0, NONE).marks(), NONE);
        checks.same("the game is over", wonBySide0().marks(), NONE);
    }

    private void promise7Winner() {
        checks.same("at first", new RoyalUrTable().winner(), NONE);
        checks.same("before the last move", nearHome().winner(), NONE);
        checks.same("side 0", wonBySide0().winner(), 0);
        checks.same("side 1", wonBySide1().winner(), 1);
    }

    private void promise8At() {
        RoyalUrTable table = played(3, 3, 0, 2, 0, 3, 3);
        checks.same("place 0, side 0", table.at(0, 0), 2);
        checks.same("place 6, side 0", table.at(0, 6), 1);
        checks.same("place 6 of the other side", table.at(1, 6), 0);
        checks.same("place 2, side 1", table.at(1, 2), 1);
        checks.same("home", wonBySide1().at(1, 15), 1);
        checks.same("home of the other side", wonBySide1().at(0, 15), 0);
        for (int side : new int[] {-1, 2, Integer.MIN_VALUE, Integer.MAX_VALUE}) {
            checks.refused("side " + side, ARGUMENT, () -> table.at(side, 0));
        }
        for (int place : new int[] {-1, 16, Integer.MIN_VALUE, Integer.MAX_VALUE}) {
            checks.refused("place " + place, ARGUMENT, () -> table.at(0, place));
        }
    }

    private void promise9Progress() {
        checks.same("at first", new RoyalUrTable().progress(1), 0);
        RoyalUrTable table = played(2, 4, 0, 3, 0, 1, 0);
        checks.same("4 and 3", table.progress(0), 7);
        checks.same("1", table.progress(1), 1);
        checks.same("home counts 15", wonBySide0().progress(0), 15);
        checks.same("a captured piece counts 0", played(1, 4, 0, 1, 4, 4, 0, 1, 4).progress(0), 0);
        checks.refused("side -1", ARGUMENT, () -> table.progress(-1));
        checks.refused("side 2", ARGUMENT, () -> table.progress(2));
    }

    private void promise10Captured() {
        checks.same("at first", new RoyalUrTable().captured(0), 0);
        RoyalUrTable table = played(1, 4, 0, 1, 4, 4, 0, 1, 4);
        checks.same("side 0", table.captured(0), 1);
        checks.same("side 1", table.captured(1), 0);
        RoyalUrTable twice = played(1, 4, 0, 1, 4, 4, 0, 1, 4, 4, 0, 1, 4, 0, NONE, 3, 5);
        checks.same("back again", twice.captured(1), 1);
        checks.same("and the first one is kept", twice.captured(0), 1);
        checks.refused("side -1", ARGUMENT, () -> table.captured(-1));
        checks.refused("side 2", ARGUMENT, () -> table.captured(2));
    }

    private void promise11ThrowsTold() {
        checks.same("at first", new RoyalUrTable().throwsTold(), 0);
        checks.same("0 marks count", played(2, 0, NONE).throwsTold(), 1);
        checks.same("before the move", played(2, 3, NONE).throwsTold(), 1);
        checks.same("behind the move", played(2, 3, 0).throwsTold(), 1);
        checks.same("a game", wonBySide0().throwsTold(), 5);
        checks.same("since the game began", played(3).throwsTold(), 0);
    }

    private void promise12Moves() {
        checks.same("before a throw", new RoyalUrTable().moves(), 0);
        checks.same("pieces at place 0", played(4, 2, NONE).moves(), 1);
        checks.same("the piece at place 12 would go beyond home",
                played(2, 4, 0, 4, 4, 4, 8, 0, NONE, 4, NONE).moves(), 1);
        checks.same("two", played(2, 2, 0, 0, NONE, 1, NONE).moves(), 2);
        checks.same("one of two", played(2, 2, 0, 0, NONE, 2, NONE).moves(), 1);
        checks.same("behind the move", played(2, 2, 0, 0, NONE, 2, 2).moves(), 0);
        checks.same("behind 0 marks", played(2, 0, NONE).moves(), 0);
        checks.same("the game is over", wonBySide0().moves(), 0);
    }

    private void promise13MoveAt() {
        RoyalUrTable table = played(3, 4, 0, 2, 0, 0, NONE, 1, NONE);
        checks.same("first", table.moveAt(0), 0);
        checks.same("second", table.moveAt(1), 2);
        checks.same("third", table.moveAt(2), 4);
        for (int index : new int[] {3, 4, -1, Integer.MIN_VALUE, Integer.MAX_VALUE}) {
            checks.same("index " + index, table.moveAt(index), NONE);
        }
        checks.same("places that can't move are left out", played(2, 2, 0, 0, NONE, 2, NONE).moveAt(0), 2);
        checks.same("before a throw", new RoyalUrTable().moveAt(0), NONE);
        checks.same("the game is over", wonBySide0().moveAt(0), NONE);
    }

    private void promise14Captures() {
        RoyalUrTable table = played(2, 4, 0, 1, 4, 4, 0, 1, NONE);
        checks.same("to place 5 with a piece of the other side", table.captures(4), true);
        checks.same("to place 1", table.captures(0), false);
        checks.same("no piece at this place", table.captures(3), false);
        checks.same("no piece at this place, though one of the other side where it would go",
                played(2, 4, 0, 1, 4, 3, NONE).captures(2), false);
        checks.same("before a throw", played(1, 4, 0, 1, 4, 4, 0).captures(4), false);
        checks.same("a place of a side's own", played(1, 3, 0, 3, NONE).captures(0), false);
        checks.same("place 8 is safe", played(2, 4, 0, 4, 4, 0, NONE, 4, 0, 3, 0, 0, NONE, 1, NONE).captures(3), false);
        checks.same("the move isn't possible",
                played(2, 4, 0, 4, 4, 0, NONE, 3, 0, 0, NONE, 4, 0, 0, NONE, 4, NONE).captures(4), false);
        checks.same("the game is over", wonBySide0().captures(0), false);
        for (int place : new int[] {-1, 15, Integer.MIN_VALUE, Integer.MAX_VALUE}) {
            checks.refused("place " + place, ARGUMENT, () -> table.captures(place));
            checks.refused("place " + place + " before a throw", ARGUMENT, () -> new RoyalUrTable().captures(place));
        }
    }

    private void promise15Worth() {
        checks.same("at first, depth 0", new RoyalUrTable().worth(0), 500000000);
        checks.same("at first, depth 1", new RoyalUrTable().worth(1), 508000000);
        checks.same("for side 0, side 1 is to throw", played(2, 0, NONE).worth(1), 492000000);
        checks.same("3 ahead, side 1 is to throw", played(2, 3, 0).worth(0), 512000000);
        checks.same("4 ahead, side 0 is to throw", played(2, 4, 0).worth(0), 516000000);
        checks.same("side 0 has won", wonBySide0().worth(0), WHOLE);
        checks.same("side 1 has won", wonBySide1().worth(3), 0);
        for (int depth : new int[] {-1, 4, Integer.MIN_VALUE, Integer.MAX_VALUE}) {
            checks.refused("depth " + depth, ARGUMENT, () -> new RoyalUrTable().worth(depth));
            checks.refused("depth " + depth + " when the game is over", ARGUMENT, () -> wonBySide0().worth(depth));
        }
    }

    private void promise15WorthBehindThrow() {
        checks.same("told 3", played(2, 3, NONE).worth(0), 512000000);
        checks.same("told 4", played(2, 4, NONE).worth(0), 516000000);
        checks.same("told 4 by side 1", played(2, 0, NONE, 4, NONE).worth(0), 484000000);
        // Behind the move to the rosette side 0 throws again: 0 marks leave it 4 ahead, 4 marks put it 8 ahead.
        checks.same("told 4, depth 1", played(2, 4, NONE).worth(1), 524000000);
        RoyalUrTable winning = nearHome();
        winning.tell(3);
        checks.same("told what wins", winning.worth(0), WHOLE);
        RoyalUrTable taking = played(2, 4, 0, 1, 4, 4, 0, 1, NONE);
        checks.same("the best move captures", taking.worth(0), 480000000);
    }

    private void promise15WorthOfEndings() {
        RoyalUrTable table = leadingAt12();
        checks.same("one piece against one", table.worth(0), WHOLE - table.ending(0, 12, 40));
        checks.same("depth 2 is 42 rounds", table.worth(2), WHOLE - table.ending(0, 12, 42));
        checks.same("at first", played(1).worth(3), table.ending(0, 0, 43));
        RoyalUrTable two = played(2, 4, 0, 4, 4, 4, 8, 4, 0, 3, 4, 3, 12, 4, 7, 0, NONE, 4, 11);
        checks.same("one of two pieces home on both sides", LedGame.state(two).substring(0, 16) + two.at(1, 15),
                "1000000000000001" + 1);
        checks.same("its worth is that of the ending", two.worth(0), two.ending(0, 0, 40));
        RoyalUrTable one = played(2, 4, 0, 4, 4, 4, 8, 0, NONE, 3, 12);
        checks.same("only one side has a piece home", one.worth(0), 560000000);
    }

    private void promise16Chance() {
        checks.same("at first, depth 1", new RoyalUrTable().chance(1), 0.508);
        checks.same("for side 1 when it is to throw", played(2, 0, NONE).chance(1), 0.508);
        checks.same("told 4 by side 1", played(2, 0, NONE, 4, NONE).chance(0), 0.516);
        checks.same("side 0 has won", wonBySide0().chance(0), 0.0);
        checks.same("side 1 has won", wonBySide1().chance(2), 0.0);
        RoyalUrTable winning = nearHome();
        winning.tell(3);
        checks.same("told what wins", winning.chance(3), 1.0);
        checks.same("an ending", played(1).chance(0), 0.530049834);
        for (int depth : new int[] {-1, 4, Integer.MIN_VALUE, Integer.MAX_VALUE}) {
            checks.refused("depth " + depth, ARGUMENT, () -> new RoyalUrTable().chance(depth));
            checks.refused("depth " + depth + " when the game is over", ARGUMENT, () -> wonBySide0().chance(depth));
        }
    }

    private void promise17Ranked() {
        RoyalUrTable equal = played(3, 2, 0, 0, NONE, 1, NONE);
        checks.same("the same worth: the lower place first", equal.ranked(0, 0), 0);
        checks.same("the same worth: then the higher one", equal.ranked(0, 1), 2);
        checks.same("not so many", equal.ranked(0, 2), NONE);
        checks.same("not nearly so many", equal.ranked(3, Integer.MAX_VALUE), NONE);
        RoyalUrTable taking = played(2, 4, 0, 1, 4, 4, 0, 1, NONE);
        checks.same("the best one captures", taking.ranked(0, 0), 4);
        checks.same("the other one", taking.ranked(0, 1), 0);
        checks.same("the best one, depth 3", taking.ranked(3, 0), 4);
        checks.same("before a throw", new RoyalUrTable().ranked(0, 0), NONE);
        checks.same("behind the move", played(2, 3, 0).ranked(0, 0), NONE);
        checks.same("the game is over", wonBySide0().ranked(0, 0), NONE);
        for (int depth : new int[] {-1, 4, Integer.MIN_VALUE, Integer.MAX_VALUE}) {
            checks.refused("depth " + depth, ARGUMENT, () -> equal.ranked(depth, 0));
            checks.refused("depth " + depth + " before a throw", ARGUMENT, () -> new RoyalUrTable().ranked(depth, 0));
        }
        for (int rank : new int[] {-1, Integer.MIN_VALUE}) {
            checks.refused("rank " + rank, ARGUMENT, () -> equal.ranked(0, rank));
            checks.refused("rank " + rank + " before a throw", ARGUMENT, () -> new RoyalUrTable().ranked(0, rank));
        }
    }

    private void promise18Ending() {
        RoyalUrTable table = new RoyalUrTable();
        checks.same("0 rounds", table.ending(3, 14, 0), 500000000);
        checks.same("1 round: 4 in 16 win", table.ending(14, 3, 1), 625000000);
        checks.same("2 rounds, both before home", table.ending(14, 14, 2), 531250000);
        checks.same("at first, 40 rounds", table.ending(0, 0, 40), 530049834);
        checks.same("60 rounds", table.ending(13, 14, 60), 720496895);
        checks.same("fewer rounds behind more", table.ending(14, 14, 2), 531250000);
        checks.same("both at place 4", table.ending(4, 4, 3), 500000000);
        wrongEndings("ending", 60, table::ending);
    }

    private void promise19EndingByThrows() {
        RoyalUrTable table = new RoyalUrTable();
        checks.same("5 rounds", table.endingByThrows(5, 9, 5), 451847076);
        wrongEndings("endingByThrows", 5, table::endingByThrows);
        for (int own = 0; own <= 14; own++) {
            for (int other = 0; other <= 14; other++) {
                for (int rounds = 0; rounds <= 5; rounds++) {
                    if (own != other || own < 5 || own > 12) {
                        checks.same("endingByThrows " + own + " " + other + " " + rounds,
                                table.endingByThrows(own, other, rounds), table.ending(own, other, rounds));
                    }
                }
            }
        }
    }

    /** One of the two calls that tell the worth of an ending. */
    private interface EndingCall {
        int worth(int own, int other, int rounds);
    }

    private void wrongEndings(String name, int mostRounds, EndingCall call) {
        for (int place : new int[] {-1, 15, Integer.MIN_VALUE, Integer.MAX_VALUE}) {
            checks.refused(name + " own " + place, ARGUMENT, () -> call.worth(place, 0, 1));
            checks.refused(name + " other " + place, ARGUMENT, () -> call.worth(0, place, 1));
            checks.refused(name + " both " + place, ARGUMENT, () -> call.worth(place, place, 1));
        }
        for (int rounds : new int[] {-1, mostRounds + 1, Integer.MIN_VALUE, Integer.MAX_VALUE}) {
            checks.refused(name + " rounds " + rounds, ARGUMENT, () -> call.worth(0, 0, rounds));
        }
        for (int place = 0; place <= 14; place++) {
            int both = place;
            boolean shared = place >= 5 && place <= 12;
            String answer = Checks.outcome(() -> call.worth(both, both, 0)).toString();
            checks.same(name + " both at place " + place, answer,
                    shared ? "throws IllegalArgumentException" : "500000000");
        }
    }

    private void worthsDoNotChangeTheGame() {
        RoyalUrTable table = played(3, 4, 0, 1, 4, 4, 0, 1, NONE);
        String before = LedGame.state(table);
        for (int depth = 0; depth <= 3; depth++) {
            table.worth(depth);
            table.chance(depth);
            table.ranked(depth, 0);
        }
        table.captures(4);
        table.ending(1, 2, 60);
        table.endingByThrows(1, 2, 5);
        checks.same("calls that ask change nothing", LedGame.state(table), before);
        checks.same("nor what they answer again", table.worth(0), played(3, 4, 0, 1, 4, 4, 0, 1, NONE).worth(0));
    }
}
