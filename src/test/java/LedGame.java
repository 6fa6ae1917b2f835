import java.util.List;
import java.util.function.Supplier;

/** A game whose pieces a test leads to where it wants them: a side that is not to move then throws 0 marks. */
final class LedGame {
    final RoyalUrTable table = new RoyalUrTable();

    LedGame(int pieces) {
        table.begin(pieces);
    }

    LedGame turnTo(int side) {
        if (table.turn() != side) {
            table.tell(0);
        }
        return this;
    }

    LedGame told(int side, int marks) {
        turnTo(side);
        table.tell(marks);
        return this;
    }

    /** Leads a piece from the first of these places over the others to the last one. */
    LedGame walk(int side, int... stops) {
        for (int i = 1; i < stops.length; i++) {
            told(side, stops[i] - stops[i - 1]);
            table.move(stops[i - 1]);
        }
        return this;
    }

    /** Leads a piece from place 0 over 4, 8 and 12 to a place. */
    LedGame bring(int side, int place) {
        for (int from = 0; from < place; from += 4) {
            walk(side, from, Math.min(from + 4, place));
        }
        return this;
    }

    LedGame bringHome(int side, int pieces) {
        for (int i = 0; i < pieces; i++) {
            bring(side, 15);
        }
        return this;
    }

    /** The game with one piece for each side in which a side has just won. */
    static RoyalUrTable wonBy(int side) {
        return new LedGame(1).bring(side, 15).table;
    }

    /** All that the asking calls without worths tell. */
    static String state(RoyalUrTable table) {
        StringBuilder text = new StringBuilder();
        for (int side = 0; side < 2; side++) {
            for (int place = 0; place <= 15; place++) {
                text.append(table.at(side, place));
            }
            text.append(" progress ").append(table.progress(side));
            text.append(" captured ").append(table.captured(side)).append(' ');
        }
        text.append("turn ").append(table.turn()).append(" marks ").append(table.marks());
        text.append(" winner ").append(table.winner()).append(" throws ").append(table.throwsTold());
        text.append(" moves");
        for (int index = 0; index < table.moves(); index++) {
            text.append(' ').append(table.moveAt(index));
        }
        return text.toString();
    }

    /** Positions of each kind: at first, on the way, with a move to be made, in an ending, and behind the end. */
    static List<Supplier<RoyalUrTable>> kinds() {
        return List.of(
            RoyalUrTable::new,
            () -> new LedGame(3).bring(0, 7).bring(1, 10).turnTo(1).table,
            () -> new LedGame(2).bring(0, 4).bring(1, 5).told(0, 1).table,
            () -> new LedGame(4).bring(1, 14).bring(1, 6).told(1, 1).table,
            () -> new LedGame(2).bringHome(0, 1).bringHome(1, 1).bring(0, 6).told(1, 3).table,
            () -> LedGame.wonBy(0),
            () -> LedGame.wonBy(1));
    }
}
