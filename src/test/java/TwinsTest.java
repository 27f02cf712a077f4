/** The tests of bounds see by Twins that nothing changes: so each change that there can be must be seen by it. */
final class TwinsTest {
    private static final Check check = new Check();

    public static void main(String[] args) {
        seesRows();
        seesTowns();
        seesActs();
        seesMore();
        check.end();
    }

    private static void seesRows() {
        Twins t = new Twins(check, Worlds::full);
        t.changes("row in place of one", 8, x -> x.row(0, 0, 8));
        t.changes("row where none was", 0, x -> x.row(7, 0, 0));
        t.changes("another lane", 0, x -> x.row(3, 1, 0));
        t.changes("one item more", 1, x -> x.row(3, 2, 1));
        t.changes("set", 2, x -> x.set(1, 2, 2));
        t.changes("set the first", 1, x -> x.set(2, 0, 1));
        t.changes("set the last", 1, x -> x.set(0, 11, 1));
        t.changes("set one of many", 1, x -> x.set(5, 20, 1));
        t.changes("copy", 6, x -> x.copy(4, 0, 0, 0, 6));
        t.changes("copy within", 6, x -> x.copy(0, 2, 0, 0, 6));
        t.changes("drop", 0, x -> x.drop(3));
    }

    private static void seesTowns() {
        Twins t = new Twins(check, Worlds::full);
        t.changes("feed", 25, x -> x.feed(32, 1));
        t.changes("town", 1, DebtFronts::town);
        t.changes("fault", -1000100, x -> {
            x.town();
            return x.town();
        });
        Twins empty = new Twins(check, Worlds::withoutTown);
        empty.changes("town where none was", 1, x -> Check.read(x, "law 1 0;person 0 0 open;"));
        empty.changes("latest fault", -1000100, DebtFronts::town);
    }

    private static void seesActs() {
        Twins t = new Twins(check, Worlds::full);
        t.changes("loan", 15, x -> x.loan(3, 2, 15));
        t.changes("pay", 282, x -> x.pay(0, 1, 11));
        t.changes("paint", 2, x -> x.paint(1, 9));
        t.changes("paint as it looks", 1, x -> x.paint(0, 1));
        t.changes("hedge", 1, x -> x.hedge(1, 0));
        t.changes("quarter", 2, x -> x.quarter(0));
        t.changes("undo", 5, DebtFronts::undo);
        Twins many = new Twins(check, Worlds::manyActs);
        many.changes("an act that makes the oldest forgotten", 2, x -> x.paint(2, 3));
    }

    private static void seesMore() {
        Twins t = new Twins(check, Worlds::full);
        t.changes("image", 1, x -> x.image(0));
        t.changes("image anew", 1, x -> x.image(1));
        t.changes("restore", 1, x -> x.restore(1));
        t.changes("ask", 1, x -> x.ask(1, 1) == Check.BAD ? 0 : 1);
    }
}
