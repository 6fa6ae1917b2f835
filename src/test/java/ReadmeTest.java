/** The game that README.md shows, call by call, with the answers that it tells. */
public final class ReadmeTest {
    public static void main(String[] args) {
        Checks checks = new Checks();
        RoyalUrTable table = new RoyalUrTable();
        checks.same("table.tell(4)", table.tell(4), 1);
        checks.same("table.move(0)", table.move(0), 4);
        checks.same("table.turn()", table.turn(), 0);
        checks.same("table.tell(2)", table.tell(2), 2);
        checks.same("table.moveAt(0)", table.moveAt(0), 0);
        checks.same("table.moveAt(1)", table.moveAt(1), 4);
        checks.same("table.ranked(3, 0)", table.ranked(3, 0), 4);
        checks.same("table.captures(4)", table.captures(4), false);
        checks.same("table.move(4)", table.move(4), 6);
        checks.same("table.tell(0)", table.tell(0), 0);
        checks.same("table.at(0, 6)", table.at(0, 6), 1);
        checks.same("table.progress(0)", table.progress(0), 6);
        checks.same("table.worth(3)", table.worth(3), 532105468);
        checks.same("table.chance(3)", table.chance(3), 0.532105468);
        checks.same("table.winner()", table.winner(), -1);
        checks.same("table.ending(5, 9, 60)", table.ending(5, 9, 60), 451012360);
        table.begin(4);
        checks.same("table.at(0, 0)", table.at(0, 0), 4);
        checks.finish("ReadmeTest");
    }
}
