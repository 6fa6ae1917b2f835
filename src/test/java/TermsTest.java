import java.util.Set;
import java.util.TreeSet;
import java.util.function.Supplier;

/** The sentences under 'What it is', 'The public face' and 'Terms' that name a boundary, each with its own test. */
public final class TermsTest {
    private static final int NONE = RoyalUrTable.NONE;
    private static final int WHOLE = 1000000000;
    private static final int HALF = 500000000;
    private static final int[] TIMES = {1, 4, 6, 4, 1};
    private static final Class<IllegalArgumentException> ARGUMENT = IllegalArgumentException.class;
    private static final Class<IllegalStateException> STATE = IllegalStateException.class;

    private final Checks checks = new Checks();

    public static void main(String[] args) {
        TermsTest test = new TermsTest();
        test.theObject();
        test.theWay();
        test.whatCanMove();
        test.whatFollowsAMove();
        test.worths();
        test.lookingAhead();
        test.endings();
        test.exceptions();
        test.checks.finish("TermsTest");
    }

    private void theObject() {
        checks.sentence("An object is used for at most 512 calls", this::calls512);
        checks.sentence("NONE = -1: There is none", () -> checks.same("NONE", NONE, -1));
        checks.sentence("Calls that ask change nothing", this::askingChangesNothing);
        checks.sentence("Sides are 0 and 1", this::sides);
        checks.sentence("Each has 1 to 4 pieces, 2 at first", this::piecesOfEach);
        checks.sentence("At first all pieces are at place 0, and side 0 is to throw", this::atFirst);
    }

    private void theWay() {
        checks.sentence("place 0 is off the table, ahead of the way", this::place0);
        checks.sentence("place 15 is home", this::place15);
        checks.sentence("Places 5 to 12 are shared; all others are a side's own", this::sharedPlaces);
        checks.sentence("Places 4, 8 and 14 are rosettes", this::rosettes);
        checks.sentence("0 to 4, which come 1, 4, 6, 4 and 1 times in 16", this::howOftenMarksCome);
    }

    private void whatCanMove() {
        checks.sentence("It can, if the marks are not 0", this::marks0);
        checks.sentence("the place that it comes to is not above 15", this::notAbove15);
        checks.sentence("no piece of its own is there", this::noPieceOfItsOwn);
        checks.sentence("home may have many", this::homeMayHaveMany);
        checks.sentence("if it is place 8, no piece of the other side is there", this::place8IsSafe);
        checks.sentence("that one is captured: it goes to place 0", this::captured);
        checks.sentence("If any piece can move, one has to", this::oneHasToMove);
        checks.sentence("if none can, the other side is to throw", this::noneCanMove);
    }

    private void whatFollowsAMove() {
        checks.sentence("Behind a move to a rosette the same side is to throw again", this::behindARosette);
        checks.sentence("also behind the move by which a side has won", this::turnBehindTheEnd);
        checks.sentence("A side whose pieces are all home has won", this::allHome);
        checks.sentence("and the game is over", this::gameIsOver);
    }

    private void worths() {
        checks.sentence("that of the other side is what is missing to 1000000000", this::worthOfTheOtherSide);
        checks.sentence("All divisions are rounded down", this::roundedDown);
        checks.sentence("if each side has just one piece that is not home, that of the ending with 40 rounds",
                this::depth0OfEndings);
        checks.sentence("otherwise 500000000 and 4000000 times the difference of the progress", this::depth0);
        checks.sentence("but at least 1 and at most 999999999", this::depth0Furthest);
        checks.sentence("The progress of a side is the sum of the places of its pieces", this::progressIsASum);
    }

    private void lookingAhead() {
        checks.sentence("the sum, over all throws, divided by 16", this::depth1);
        checks.sentence("the greatest of those behind the moves that are possible", this::greatest);
        checks.sentence("if none is possible, that of the position with the other side to throw", this::nonePossible);
        checks.sentence("with a depth less by 1", this::depthLessBy1);
        checks.sentence("It is 1000000000 behind a move by which the side has won", this::wonAhead);
        checks.sentence("looking ahead: the same side is to throw again", this::rosetteAhead);
        checks.sentence("looking ahead: places 5 to 12 are shared", this::sharedPlacesAhead);
        checks.sentence("looking ahead: no piece of its own is there (home may have many)", this::ownPiecesAhead);
    }

    private void endings() {
        checks.sentence("each side has one piece, at a place from 0 to 14", this::endingsFrom0To14);
        checks.sentence("The worth of an ending with 0 rounds is 500000000", this::endingsWith0Rounds);
        checks.sentence("with more rounds it is as told for depths above 0", this::endingsWithMoreRounds);
    }

    private void exceptions() {
        checks.sentence("A call that throws an exception changes nothing", this::refusedCalls);
        checks.sentence("the one that the throws clause names first is thrown", this::whichIsThrown);
    }

    // ---- the object

    private void calls512() {
        RoyalUrTable table = new RoyalUrTable();
        for (int call = 1; call <= 510; call++) {
            table.tell(0);
        }
        checks.same("the 511th call", table.throwsTold(), 510);
        checks.same("the 512th call", table.worth(1), 508000000);
    }

    private void askingChangesNothing() {
        for (Supplier<RoyalUrTable> kind : LedGame.kinds()) {
            RoyalUrTable table = kind.get();
            String before = LedGame.state(table);
            String worthsBefore = worthsOf(table);
            checks.same("worths asked again", worthsOf(table), worthsBefore);
            checks.same("state behind worths", LedGame.state(table), before);
            for (int place = 0; place <= 14; place++) {
                table.captures(place);
            }
            checks.same("state asked again", LedGame.state(table), before);
            checks.same("a twin that was not asked", LedGame.state(kind.get()), before);
        }
    }

    private static String worthsOf(RoyalUrTable table) {
        StringBuilder text = new StringBuilder();
        for (int depth = 0; depth <= 3; depth++) {
            text.append(table.worth(depth)).append(' ').append(table.chance(depth)).append(' ');
            text.append(table.ranked(depth, 0)).append(' ').append(table.ranked(depth, 1)).append(' ');
        }
        text.append(table.ending(1, 2, 60)).append(' ').append(table.endingByThrows(1, 2, 5));
        return text.toString();
    }

    private void sides() {
        RoyalUrTable table = new LedGame(2).bring(0, 3).bring(1, 2).table;
        checks.same("progress of side 0", table.progress(0), 3);
        checks.same("progress of side 1", table.progress(1), 2);
        checks.refused("side -1", ARGUMENT, () -> table.progress(-1));
        checks.refused("side 2", ARGUMENT, () -> table.progress(2));
    }

    private void piecesOfEach() {
        for (int side = 0; side < 2; side++) {
            checks.same("at first, side " + side, new RoyalUrTable().at(side, 0), 2);
            for (int pieces = 1; pieces <= 4; pieces++) {
                checks.same("begin " + pieces + ", side " + side, new LedGame(pieces).table.at(side, 0), pieces);
            }
        }
    }

    private void atFirst() {
        for (int side = 0; side < 2; side++) {
            for (int place = 1; place <= 15; place++) {
                checks.same("place " + place + " of side " + side, new RoyalUrTable().at(side, place), 0);
            }
        }
        checks.same("turn", new RoyalUrTable().turn(), 0);
        checks.same("marks", new RoyalUrTable().marks(), NONE);
    }

    // ---- the way

    private void place0() {
        for (int marks = 1; marks <= 4; marks++) {
            checks.same("from place 0 with " + marks, new LedGame(1).told(0, marks).table.move(0), marks);
        }
        RoyalUrTable table = new LedGame(4).told(0, 1).table;
        table.move(0);
        checks.same("the others stay", table.at(0, 0), 3);
    }

    private void place15() {
        RoyalUrTable table = new LedGame(2).bring(0, 15).told(0, 1).table;
        checks.same("a piece at home", table.at(0, 15), 1);
        checks.same("only the other one can move", table.moves(), 1);
        checks.same("it is the one at place 0", table.moveAt(0), 0);
        checks.refused("move 15", ARGUMENT, () -> table.move(15));
    }

    /** A piece of side 1 stands at a place, and one of side 0 comes there, with each number of marks. */
    private void sharedPlaces() {
        for (int place = 1; place <= 14; place++) {
            for (int marks = 1; marks <= Math.min(4, place); marks++) {
                if (place != 8) {
                    boolean shared = place >= 5 && place <= 12;
                    String what = "place " + place + " with " + marks;
                    RoyalUrTable table = new LedGame(1).bring(1, place).bring(0, place - marks).told(0, marks).table;
                    checks.same(what + ", captures", table.captures(place - marks), shared);
                    table.move(place - marks);
                    checks.same(what + ", captured", table.captured(1), shared ? 1 : 0);
                    checks.same(what + ", still there", table.at(1, place), shared ? 0 : 1);
                    checks.same(what + ", at place 0", table.at(1, 0), shared ? 1 : 0);
                    checks.same(what + ", side 0", table.at(0, place), 1);
                }
            }
        }
    }

    private void rosettes() {
        for (int side = 0; side < 2; side++) {
            for (int place = 1; place <= 15; place++) {
                RoyalUrTable table = new LedGame(2).bring(side, place - 1).told(side, 1).table;
                table.move(place - 1);
                boolean rosette = place == 4 || place == 8 || place == 14;
                checks.same("behind a move of side " + side + " to " + place, table.turn(), rosette ? side : 1 - side);
            }
        }
    }

    /** With one round only the throw that brings the piece home is not worth 500000000. */
    private void howOftenMarksCome() {
        RoyalUrTable table = new RoyalUrTable();
        for (int marks = 1; marks <= 4; marks++) {
            int due = HALF + HALF / 16 * TIMES[marks];
            checks.same(marks + " marks from home", table.ending(15 - marks, 0, 1), due);
            checks.same(marks + " marks from home, played", table.endingByThrows(15 - marks, 0, 1), due);
        }
        checks.same("16 in all, so 0 marks once", table.ending(0, 0, 1), HALF);
    }

    // ---- what can move

    private void marks0() {
        for (int place = 0; place <= 14; place++) {
            int from = place;
            RoyalUrTable table = new LedGame(2).bring(0, place).turnTo(0).table;
            checks.same("0 marks, a piece at " + place, table.tell(0), 0);
            checks.same("the other side is to throw", table.turn(), 1);
            checks.same("no move is to be made", table.marks(), NONE);
            checks.same("none is possible", table.moves(), 0);
            checks.refused("move " + place, STATE, () -> table.move(from));
        }
    }

    private void notAbove15() {
        for (int place = 11; place <= 14; place++) {
            for (int marks = 1; marks <= 4; marks++) {
                int from = place;
                int to = place + marks;
                RoyalUrTable table = new LedGame(2).bring(0, place).told(0, marks).table;
                checks.same("moves from 0 and to " + to, table.moves(), to <= 15 ? 2 : 1);
                checks.same("second place, to " + to, table.moveAt(1), to <= 15 ? place : NONE);
                checks.same("move to " + to, Checks.outcome(() -> table.move(from)),
                        to <= 15 ? (Object) to : "throws IllegalStateException");
                RoyalUrTable alone = new LedGame(1).bring(0, place).turnTo(0).table;
                checks.same("tell, one piece to " + to, alone.tell(marks), to <= 15 ? 1 : 0);
            }
        }
    }

    private void noPieceOfItsOwn() {
        for (int place = 1; place <= 14; place++) {
            for (int marks = 1; marks <= Math.min(4, place); marks++) {
                int from = place - marks;
                RoyalUrTable table = new LedGame(2).bring(0, place).bring(0, from).turnTo(0).table;
                boolean otherCan = place + marks <= 15;
                checks.same("tell " + marks + ", from " + from, table.tell(marks), otherCan ? 1 : 0);
                checks.same("the place from which one can", table.moveAt(0), otherCan ? place : NONE);
                checks.same("captures", table.captures(from), false);
                checks.refused("move " + from + " with " + marks, STATE, () -> table.move(from));
            }
        }
    }

    private void homeMayHaveMany() {
        LedGame led = new LedGame(4);
        for (int pieces = 1; pieces <= 4; pieces++) {
            led.bring(1, 12).told(1, 3);
            checks.same("moves with " + (pieces - 1) + " at home", led.table.moves(), pieces < 4 ? 2 : 1);
            checks.same("move home", led.table.move(12), 15);
            checks.same("at home", led.table.at(1, 15), pieces);
        }
    }

    private void place8IsSafe() {
        for (int side = 0; side < 2; side++) {
            for (int marks = 1; marks <= 4; marks++) {
                place8IsSafe(side, marks);
            }
            LedGame beyond = new LedGame(1).bring(1 - side, 8).bring(side, 7).told(side, 2);
            checks.same("beyond place 8", beyond.table.move(7), 9);
        }
    }

    private void place8IsSafe(int side, int marks) {
        int from = 8 - marks;
        RoyalUrTable alone = new LedGame(1).bring(1 - side, 8).bring(side, from).turnTo(side).table;
        checks.same("tell " + marks + ", the only piece", alone.tell(marks), 0);
        checks.same("the other side is to throw", alone.turn(), 1 - side);
        // With 4 marks the piece at place 0 is in the way of its own side: so a third piece stands beyond place 8.
        LedGame led = new LedGame(3).bring(side, 9).bring(1 - side, 8).bring(side, from).turnTo(side);
        checks.same("tell " + marks, led.table.tell(marks), marks == 4 ? 1 : 2);
        checks.same("the first place is another one", led.table.moveAt(0), marks == 4 ? 9 : 0);
        checks.same("the last place is another one", led.table.moveAt(led.table.moves() - 1), 9);
        checks.same("captures", led.table.captures(from), false);
        checks.refused("move to 8 with " + marks, STATE, () -> led.table.move(from));
        checks.same("nothing was captured", led.table.at(1 - side, 8), 1);
        LedGame empty = new LedGame(1).bring(side, from).told(side, marks);
        checks.same("place 8 if it is empty", empty.table.move(from), 8);
    }

    private void captured() {
        for (int pieces = 1; pieces <= 4; pieces++) {
            RoyalUrTable table = new LedGame(pieces).bring(1, 10).walk(0, 0, 4, 8, 10).table;
            checks.same("progress of the other side", table.progress(1), 0);
            checks.same("at place 0, " + pieces + " pieces", table.at(1, 0), pieces);
            checks.same("captured, side 1", table.captured(1), 1);
            checks.same("captured, side 0", table.captured(0), 0);
            checks.same("progress of the side that moved", table.progress(0), 10);
        }
    }

    private void oneHasToMove() {
        for (int marks = 0; marks <= 4; marks++) {
            int again = marks;
            RoyalUrTable table = new LedGame(2).bring(0, 14).told(0, 4).table;
            checks.refusedWithoutChange(table, "tell " + marks + " ahead of the only move", STATE,
                    () -> table.tell(again));
        }
    }

    private void noneCanMove() {
        RoyalUrTable beyond = new LedGame(1).bring(1, 14).turnTo(1).table;
        checks.same("all beyond home", beyond.tell(2), 0);
        checks.same("side 0 is to throw", beyond.turn(), 0);
        RoyalUrTable blocked = new LedGame(4).bringHome(0, 1).bring(0, 14).bring(0, 12).bring(0, 10).turnTo(0).table;
        checks.same("each blocked by the next one, or beyond home", blocked.tell(2), 0);
        checks.same("side 1 is to throw", blocked.turn(), 1);
        checks.same("no move is to be made", blocked.marks(), NONE);
    }

    // ---- what follows a move

    private void behindARosette() {
        RoyalUrTable table = new LedGame(1).walk(1, 0, 4, 8).table;
        checks.same("side 1 at place 8", table.turn(), 1);
        checks.same("it throws again", table.tell(3), 1);
        checks.same("and moves", table.move(8), 11);
        checks.same("then side 0", table.turn(), 0);
    }

    private void turnBehindTheEnd() {
        checks.same("side 0 has won", LedGame.wonBy(0).turn(), 1);
        checks.same("side 1 has won", LedGame.wonBy(1).turn(), 0);
    }

    private void allHome() {
        for (int side = 0; side < 2; side++) {
            for (int pieces = 1; pieces <= 4; pieces++) {
                LedGame led = new LedGame(pieces).bringHome(side, pieces - 1).bring(side, 14);
                checks.same("all but one of " + pieces, led.table.winner(), NONE);
                led.told(side, 1);
                checks.same("before the last move", led.table.winner(), NONE);
                led.table.move(14);
                checks.same("all " + pieces, led.table.winner(), side);
            }
        }
    }

    private void gameIsOver() {
        for (int side = 0; side < 2; side++) {
            for (int marks = 0; marks <= 4; marks++) {
                int told = marks;
                RoyalUrTable table = LedGame.wonBy(side);
                checks.refusedWithoutChange(table, "tell " + marks, STATE, () -> table.tell(told));
            }
        }
    }

    // ---- worths

    private void worthOfTheOtherSide() {
        for (int turn = 0; turn < 2; turn++) {
            RoyalUrTable table = new LedGame(3).bring(0, 7).bring(1, 10).bring(1, 3).turnTo(turn).table;
            RoyalUrTable mirrored = new LedGame(3).bring(1, 7).bring(0, 10).bring(0, 3).turnTo(1 - turn).table;
            for (int depth = 0; depth <= 3; depth++) {
                checks.same("depth " + depth, table.worth(depth), WHOLE - mirrored.worth(depth));
            }
        }
    }

    /** A piece at place 14: 4 in 16 win, with all other throws it can't move and the other side is to throw. */
    private void roundedDown() {
        RoyalUrTable table = new RoyalUrTable();
        checks.same("9414062500 / 16 = 588378906.25", table.endingByThrows(14, 14, 5), 588378906);
        checks.same("the same from the table", table.ending(14, 14, 5), 588378906);
        checks.same("8939453128 / 16 = 558715820.5", table.ending(14, 14, 6), 558715820);
        Set<Long> rests = new TreeSet<>();
        for (int other = 0; other <= 14; other++) {
            long sum = 4L * WHOLE + 12L * (WHOLE - table.ending(other, 14, 40));
            rests.add(sum % 16);
            LedGame led = new LedGame(1).bring(0, 14).bring(1, other).turnTo(0);
            checks.same("depth 1, other at " + other, led.table.worth(1), (int) (sum / 16));
            LedGame mirrored = new LedGame(1).bring(1, 14).bring(0, other).turnTo(1);
            checks.same("down for side 1, so up for side 0", mirrored.table.worth(1), WHOLE - (int) (sum / 16));
        }
        checks.same("rests below, at and above the half", rests, Set.of(0L, 4L, 8L, 12L));
    }

    private void depth0OfEndings() {
        for (int pieces = 1; pieces <= 4; pieces++) {
            RoyalUrTable table = new LedGame(pieces).bringHome(0, pieces - 1).bringHome(1, pieces - 1)
                    .bring(0, 6).bring(1, 9).turnTo(0).table;
            checks.same("side 0 is to throw", table.worth(0), table.ending(6, 9, 40));
            checks.same("not 39 rounds", table.ending(6, 9, 39) == table.ending(6, 9, 40), false);
            checks.same("not 41 rounds", table.ending(6, 9, 41) == table.ending(6, 9, 40), false);
            table.tell(0);
            checks.same("side 1 is to throw", table.worth(0), WHOLE - table.ending(9, 6, 40));
        }
        RoyalUrTable first = new LedGame(1).table;
        checks.same("both at place 0", first.worth(0), first.ending(0, 0, 40));
        RoyalUrTable last = new LedGame(1).bring(0, 14).bring(1, 14).turnTo(0).table;
        checks.same("both at place 14", last.worth(0), last.ending(14, 14, 40));
    }

    private void depth0() {
        checks.same("just one of side 0, two of side 1", new LedGame(2).bringHome(0, 1).table.worth(0), 560000000);
        checks.same("just one of side 1, two of side 0", new LedGame(2).bringHome(1, 1).table.worth(0), 440000000);
        checks.same("two of each", new LedGame(3).bringHome(0, 1).bringHome(1, 1).bring(0, 1).table.worth(0),
                504000000);
        for (int side = 0; side < 2; side++) {
            checks.same("no difference, side " + side, new LedGame(2).turnTo(side).table.worth(0), HALF);
            checks.same("1 ahead, side " + side, new LedGame(2).bring(0, 1).turnTo(side).table.worth(0), 504000000);
            checks.same("1 behind, side " + side, new LedGame(2).bring(1, 1).turnTo(side).table.worth(0), 496000000);
        }
    }

    /** No position of four pieces comes to the bounds: 59 places are the greatest difference. */
    private void depth0Furthest() {
        for (int turn = 0; turn < 2; turn++) {
            LedGame ahead = new LedGame(4).bringHome(0, 3).bring(0, 14).turnTo(turn);
            checks.same("59 ahead", ahead.table.worth(0), 736000000);
            LedGame behind = new LedGame(4).bringHome(1, 3).bring(1, 14).turnTo(turn);
            checks.same("59 behind", behind.table.worth(0), 264000000);
        }
    }

    private void progressIsASum() {
        checks.same("all at place 0", new LedGame(4).table.progress(0), 0);
        checks.same("15, 14, 9 and 3", new LedGame(4).bringHome(0, 1).bring(0, 14).bring(0, 9).bring(0, 3)
                .table.progress(0), 41);
        checks.same("four at home", new LedGame(4).bringHome(1, 4).table.progress(1), 60);
    }

    // ---- looking ahead, reckoned by hand in millions

    private void depth1() {
        // (500 + 4 * 504 + 6 * 508 + 4 * 512 + 516) / 16
        checks.same("at first", new RoyalUrTable().worth(1), 508000000);
        checks.same("at first, four pieces", new LedGame(4).table.worth(1), 508000000);
        checks.same("side 1 is to throw", new LedGame(2).turnTo(1).table.worth(1), 492000000);
    }

    private void greatest() {
        // Side 0 at 4 and 0, side 1 at 5 and 0. 1 mark: 4 to 5 captures, 5 ahead; 0 to 1, nobody ahead.
        RoyalUrTable table = new LedGame(2).bring(0, 4).bring(1, 5).turnTo(0).table;
        // (496 + 4 * 520 + 6 * 504 + 4 * 508 + 512) / 16
        checks.same("side 0", table.worth(1), 509000000);
        table.tell(1);
        checks.same("told 1", table.worth(0), 520000000);
        RoyalUrTable side1 = new LedGame(2).bring(1, 4).bring(0, 5).turnTo(1).table;
        checks.same("side 1", side1.worth(1), 491000000);
        side1.tell(1);
        checks.same("told 1, side 1: the least for side 0", side1.worth(0), 480000000);
    }

    private void nonePossible() {
        // Side 0 has three at home and one at 14, 59 ahead: 1 mark wins, with all others none can move.
        RoyalUrTable table = new LedGame(4).bringHome(0, 3).bring(0, 14).turnTo(0).table;
        checks.same("(4 * 1000 + 12 * 736) / 16", table.worth(1), 802000000);
        // The other side's worth: (264 + 4 * 268 + 6 * 272 + 4 * 276 + 280) / 16 = 272.
        checks.same("(4 * 1000 + 12 * 728) / 16", table.worth(2), 796000000);
    }

    private void depthLessBy1() {
        checks.same("told 3, depth 1: side 1 throws", new LedGame(2).told(0, 3).table.worth(1), 504000000);
        RoyalUrTable table = new LedGame(2).bringHome(0, 1).bringHome(1, 1).bring(0, 6).bring(1, 9).turnTo(0).table;
        for (int depth = 0; depth <= 3; depth++) {
            checks.same("an ending, depth " + depth, table.worth(depth), table.ending(6, 9, 40 + depth));
        }
    }

    private void wonAhead() {
        for (int depth = 0; depth <= 3; depth++) {
            checks.same("side 0, depth " + depth, new LedGame(1).bring(0, 12).told(0, 3).table.worth(depth), WHOLE);
            checks.same("side 1, depth " + depth, new LedGame(4).bringHome(1, 3).bring(1, 14).told(1, 1)
                    .table.worth(depth), 0);
        }
    }

    private void rosetteAhead() {
        // Behind 0 to 4: (516 + 4 * 520 + 6 * 524 + 4 * 528 + 532) / 16
        checks.same("to place 4", new LedGame(2).told(0, 4).table.worth(1), 524000000);
        // Behind 7 to 8, side 1 at 0: 8 ahead, (532 + 4 * 536 + 6 * 540 + 4 * 544 + 548) / 16
        checks.same("to place 8", new LedGame(2).bring(0, 7).told(0, 1).table.worth(1), 540000000);
        RoyalUrTable last = new LedGame(3).bringHome(0, 1).bring(0, 10).told(0, 4).table;
        // From 10 to 14, 29 ahead: (616 + 4 * 620 + 6 * 624 + 4 * 628 + 632) / 16
        checks.same("to place 14", last.worth(1), 624000000);
    }

    private void sharedPlacesAhead() {
        // Side 1 is 4 ahead at its place 4; with 4 marks side 0 comes to its own: (484 + .. + 500) / 16
        LedGame own4 = new LedGame(2).bring(1, 4).turnTo(0);
        checks.same("place 4 is a side's own", own4.table.worth(1), 492000000);
        // With 1 mark 4 to 5 captures, 5 ahead: (496 + 4 * 520 + 6 * 504 + 4 * 508 + 512) / 16
        LedGame shared5 = new LedGame(2).bring(0, 4).bring(1, 5).turnTo(0);
        checks.same("place 5 is shared", shared5.table.worth(1), 509000000);
        // With 4 marks neither the piece at 4 nor that at 0 can move: (484 + 4 * 488 + 6 * 492 + 4 * 496 + 484) / 16
        LedGame safe8 = new LedGame(2).bring(0, 4).bring(1, 8).turnTo(0);
        checks.same("place 8 is safe", safe8.table.worth(1), 491000000);
        // With 1 mark 11 to 12 captures, 12 ahead: (496 + 4 * 548 + 6 * 504 + 4 * 508 + 512) / 16
        LedGame shared12 = new LedGame(2).bring(0, 11).bring(1, 12).turnTo(0);
        checks.same("place 12 is shared", shared12.table.worth(1), 516000000);
        // With 1 mark 12 to 13 or 0 to 1, nobody ahead: (496 + 4 * 500 + 6 * 504 + 4 * 508 + 512) / 16
        LedGame own13 = new LedGame(2).bring(1, 13).bring(0, 12).turnTo(0);
        checks.same("place 13 is a side's own", own13.table.worth(1), 504000000);
    }

    private void ownPiecesAhead() {
        // At 15, 14 and 13, 42 ahead: 14 to 15, 13 to 15, none, none: (668 + 4 * 672 + 6 * 676 + 4 * 668 + 668) / 16
        checks.same("at places 14 and 13", new LedGame(3).bringHome(0, 1).bring(0, 14).bring(0, 13).turnTo(0)
                .table.worth(1), 672000000);
    }

    // ---- endings

    private interface Ending {
        void at(int own, int other);
    }

    private static void eachEnding(Ending ending) {
        for (int own = 0; own <= 14; own++) {
            for (int other = 0; other <= 14; other++) {
                if (own != other || own < 5 || own > 12) {
                    ending.at(own, other);
                }
            }
        }
    }

    private void endingsFrom0To14() {
        RoyalUrTable table = new RoyalUrTable();
        checks.same("both at place 0", table.ending(0, 0, 1), HALF);
        checks.same("both at place 14: 4 in 16 win", table.ending(14, 14, 1), 625000000);
        checks.refused("own at home", ARGUMENT, () -> table.ending(15, 0, 1));
        checks.refused("other at home", ARGUMENT, () -> table.ending(0, 15, 1));
    }

    private void endingsWith0Rounds() {
        RoyalUrTable table = new RoyalUrTable();
        eachEnding((own, other) -> {
            checks.same("ending " + own + " " + other, table.ending(own, other, 0), HALF);
            checks.same("endingByThrows " + own + " " + other, table.endingByThrows(own, other, 0), HALF);
        });
    }

    private void endingsWithMoreRounds() {
        RoyalUrTable table = new RoyalUrTable();
        PlainGame plain = new PlainGame();
        eachEnding((own, other) -> {
            for (int rounds = 1; rounds <= 60; rounds++) {
                checks.same("ending " + own + " " + other + " " + rounds,
                        table.ending(own, other, rounds), plain.ending(own, other, rounds));
            }
        });
        // Both at 14: (4 * 1000 + 12 * 500) / 16 = 625, (4 * 1000 + 12 * (1000 - 625)) / 16 = 531.25, and so on
        int[] due = {500000000, 625000000, 531250000, 601562500, 548828125, 588378906};
        for (int rounds = 0; rounds <= 5; rounds++) {
            checks.same("both at 14, rounds " + rounds, table.endingByThrows(14, 14, rounds), due[rounds]);
        }
    }

    // ---- exceptions

    private void refusedCalls() {
        for (Supplier<RoyalUrTable> kind : LedGame.kinds()) {
            RoyalUrTable table = kind.get();
            checks.refusedWithoutChange(table, "begin 0", ARGUMENT, () -> begun(table, 0));
            checks.refusedWithoutChange(table, "tell 5", ARGUMENT, () -> table.tell(5));
            checks.refusedWithoutChange(table, "move 15", ARGUMENT, () -> table.move(15));
            checks.refusedWithoutChange(table, "move of no piece", STATE, () -> table.move(13));
            if (table.marks() != NONE || table.winner() != NONE) {
                checks.refusedWithoutChange(table, "tell 1", STATE, () -> table.tell(1));
            }
            checks.refusedWithoutChange(table, "at 0 16", ARGUMENT, () -> table.at(0, 16));
            checks.refusedWithoutChange(table, "captures 15", ARGUMENT, () -> table.captures(15));
            checks.refusedWithoutChange(table, "worth 4", ARGUMENT, () -> table.worth(4));
            checks.refusedWithoutChange(table, "ranked 4 0", ARGUMENT, () -> table.ranked(4, 0));
            checks.refusedWithoutChange(table, "ending 5 5 1", ARGUMENT, () -> table.ending(5, 5, 1));
            checks.same("a twin that refused nothing", LedGame.state(table), LedGame.state(kind.get()));
        }
    }

    private static Object begun(RoyalUrTable table, int pieces) {
        table.begin(pieces);
        return "";
    }

    private void whichIsThrown() {
        RoyalUrTable toMove = new LedGame(2).told(0, 2).table;
        RoyalUrTable toThrow = new RoyalUrTable();
        for (int wrong : new int[] {-1, 5}) {
            checks.refused("tell " + wrong + " while a move is to be made", ARGUMENT, () -> toMove.tell(wrong));
            checks.refused("tell " + wrong + " when the game is over", ARGUMENT, () -> LedGame.wonBy(1).tell(wrong));
        }
        for (int wrong : new int[] {-1, 15}) {
            checks.refused("move " + wrong + " while none is to be made", ARGUMENT, () -> toThrow.move(wrong));
            checks.refused("move " + wrong + " when the game is over", ARGUMENT, () -> LedGame.wonBy(0).move(wrong));
        }
    }
}
