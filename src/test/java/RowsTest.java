/** Promises 2 to 5 (row, set, copy, drop) and 30 (status) as far as ROWS go. */
final class RowsTest {
    private static final Check check = new Check();

    public static void main(String[] args) {
        makesRows();
        setsItems();
        copiesItems();
        dropsRows();
        tellsStatus();
        check.end();
    }

    private static void makesRows() {
        DebtFronts x = new DebtFronts();
        check.due("row none", x.row(0, 0, 0), 0);
        check.due("row most", x.row(7, 2, 40), 40);
        check.due("count", x.count(0), 2);
        check.due("row below", x.row(-1, 0, 1), Check.BAD);
        check.due("row above", x.row(8, 0, 1), Check.BAD);
        check.due("lane below", x.row(0, -1, 1), Check.BAD);
        check.due("lane above", x.row(0, 3, 1), Check.BAD);
        check.due("n above", x.row(0, 0, 41), Check.BAD);
        check.due("BAD ahead of SIZE", x.row(8, 0, -1), Check.BAD);
        check.due("lane BAD ahead of SIZE", x.row(0, 3, -1), Check.BAD);
        check.due("SIZE", x.row(3, 0, -1), Check.SIZE);
        check.due("SIZE least", x.row(7, 0, Integer.MIN_VALUE), Check.SIZE);
        check.due("nothing changed", x.count(0), 2);
        check.due("still there", x.set(7, 39, 70000), 70000);
        check.due("anew", x.row(7, 1, 2), 2);
        check.due("old place gone", x.set(7, 2, 1), Check.PLACE);
        Check.fill(x, 7, 2, 5, 6, 7);
        x.row(7, 2, 3);
        x.row(6, 2, 3);
        x.set(6, 1, 9);
        check.due("copied zeros", x.copy(7, 0, 6, 0, 3), 3);
        Check.fill(x, 5, 2, 0, 0, 0, 0, 0, 0);
        x.copy(6, 0, 5, 0, 3);
        check.due("items are 0 at first", x.fits(5, 0, 0), 1);
    }

    private static void setsItems() {
        DebtFronts x = new DebtFronts();
        x.row(0, 0, 2);
        x.row(1, 1, 2);
        x.row(2, 2, 2);
        check.due("byte 127", x.set(0, 0, 127), 127);
        check.due("byte 128", x.set(0, 0, 128), -128);
        check.due("byte 511", x.set(0, 1, 511), -1);
        check.due("byte of a large one", x.set(0, 1, 0x12345678), 0x78);
        check.due("short 32767", x.set(1, 0, 32767), 32767);
        check.due("short 32768", x.set(1, 0, 32768), -32768);
        check.due("short of a large one", x.set(1, 1, 0x12345678), 0x5678);
        check.due("int least", x.set(2, 0, Integer.MIN_VALUE), Integer.MIN_VALUE);
        check.due("int most", x.set(2, 1, Integer.MAX_VALUE), Integer.MAX_VALUE);
        check.due("place below", x.set(2, -1, 0), Check.PLACE);
        check.due("place above", x.set(2, 2, 0), Check.PLACE);
        check.due("place far", x.set(2, Integer.MIN_VALUE, 0), Check.PLACE);
        check.due("missing", x.set(3, 0, 0), Check.NULL);
        check.due("missing ahead of place", x.set(3, -1, 0), Check.NULL);
        check.due("no row", x.set(8, 0, 0), Check.BAD);
        check.due("no row below", x.set(-1, 0, 0), Check.BAD);
    }

    private static void copiesItems() {
        DebtFronts x = new DebtFronts();
        Check.fill(x, 0, 2, 1, 1, 1, 0, 0, 0, 2, 3);
        check.due("onto itself, forwards", x.copy(0, 0, 0, 2, 6), 6);
        check.due("as they were ahead: 1 1 1 0 0 0 from 2 on", x.fits(0, 2, 1), 2);
        Check.fill(x, 0, 2, 9, 9, 1, 1, 1, 0, 0, 0);
        check.due("onto itself, backwards", x.copy(0, 2, 0, 0, 6), 6);
        check.due("as they were ahead: from 0 on", x.fits(0, 0, 1), 2);
        x.row(1, 2, 8);
        x.row(2, 1, 8);
        check.due("none at the end", x.copy(0, 8, 1, 8, 0), 0);
        check.due("all", x.copy(0, 0, 1, 0, 8), 8);
        check.due("they came", x.fits(1, 0, 1), 2);
        check.due("i below", x.copy(0, -1, 1, 0, 1), Check.PLACE);
        check.due("j below", x.copy(0, 0, 1, -1, 1), Check.PLACE);
        check.due("n below", x.copy(0, 0, 1, 0, -1), Check.PLACE);
        check.due("i beyond", x.copy(0, 1, 1, 0, 8), Check.PLACE);
        check.due("j beyond", x.copy(0, 0, 1, 1, 8), Check.PLACE);
        check.due("i beyond with none", x.copy(0, 9, 1, 0, 0), Check.PLACE);
        check.due("n far beyond", x.copy(0, 1, 1, 1, Integer.MAX_VALUE), Check.PLACE);
        check.due("i far beyond", x.copy(0, Integer.MAX_VALUE, 1, 1, 1), Check.PLACE);
        check.due("two lanes", x.copy(0, 0, 2, 0, 1), Check.STORE);
        check.due("STORE ahead of PLACE", x.copy(0, -1, 2, 0, 1), Check.STORE);
        check.due("from a missing one", x.copy(3, 0, 0, 0, 1), Check.NULL);
        check.due("to a missing one, ahead of PLACE", x.copy(0, -1, 3, 0, 1), Check.NULL);
        check.due("no row a", x.copy(8, 0, 3, 0, 1), Check.BAD);
        check.due("no row b", x.copy(3, 0, -1, 0, 1), Check.BAD);
    }

    private static void dropsRows() {
        DebtFronts x = new DebtFronts();
        check.due("missing at first", x.drop(0), Check.NULL);
        x.row(0, 1, 17);
        x.row(1, 1, 0);
        check.due("17", x.drop(0), 17);
        check.due("0", x.drop(1), 0);
        check.due("again", x.drop(0), Check.NULL);
        check.due("count", x.count(0), 0);
        check.due("no row", x.drop(8), Check.BAD);
        check.due("no row below", x.drop(-1), Check.BAD);
    }

    private static void tellsStatus() {
        DebtFronts x = new DebtFronts();
        check.due("at first", x.status(), 0);
        x.drop(0);
        check.due("NULL", x.status(), 1);
        x.row(9, 0, 0);
        check.due("BAD leaves it", x.status(), 1);
        x.row(0, 0, 6);
        check.due("none", x.status(), 0);
        x.set(0, 6, 0);
        check.due("PLACE", x.status(), 2);
        x.fits(0, 0, 4);
        check.due("fits BAD leaves it", x.status(), 2);
        x.fits(0, 0, 0);
        check.due("fits is a call with a ROW", x.status(), 0);
        x.row(0, 0, -1);
        check.due("SIZE", x.status(), 4);
        x.set(0, 0, 10);
        x.row(1, 1, 6);
        x.copy(0, 0, 1, 0, 1);
        check.due("STORE", x.status(), 5);
        x.fits(0, 0, 0);
        check.due("a BAD item leaves it", x.status(), 5);
        x.fits(0, 1, 0);
        check.due("fits PLACE", x.status(), 2);
        x.fits(2, 0, 0);
        check.due("fits NULL", x.status(), 1);
        Check.read(x, "law 1 0;person 0 0 open;");
        x.person(9, 9);
        x.undo();
        check.due("calls without a ROW leave it", x.status(), 1);
        x.as(0, 4);
        check.due("as without a finding", x.status(), 0);
        x.as(0, 1);
        check.due("KIND", x.status(), 3);
        x.as(1, 1);
        x.as(0, 6);
        check.due("as BAD leaves it", x.status(), 3);
        x.drop(0);
        check.due("drop", x.status(), 0);
    }
}
