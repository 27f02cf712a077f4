/** Objects in which something of each sort is there, as calls that the tests of bounds begin with. */
final class Worlds {
    /** Four people, of whom the last has nothing, and fails in the first quarter. */
    static final String FOUR = "law 10 20;person 100 7 open;person 500 0 hedge;person 0 3 open;person 0 0 open;"
            + "owes 0 1 350;owes 2 0 8;owes 1 2 30;owes 1 0 60;owes 3 1 5;";

    private Worlds() {
    }

    /** Rows, a fault, a trace, acts, one image, bytes on the tape, a finding: and a town of four. */
    static void full(DebtFronts x) {
        withoutTown(x);
        Check.read(x, "law 1 99;");
        Check.read(x, FOUR);
        x.loan(2, 1, 40);
        x.quarter(5);
        x.image(1);
        x.paint(0, 1);
        x.hedge(2, 1);
        x.pay(0, 1, 3);
        x.loan(1, 0, 20);
        x.ask(0, 0);
        Check.feed(x, "law 3 4;person 5 6 open;");
        x.set(1, 6, 0);
    }

    /** Rows and a finding, without a town. */
    static void withoutTown(DebtFronts x) {
        // six ITEMS that fit some ways: another one in their midst fits otherwise
        Check.fill(x, 0, 0, 1, 1, 1, 0, 0, 0, 2, 1, 1, 0, 0, 0);
        Check.fill(x, 1, 1, 3, 3, 3, 0, 0, 0);
        Check.fill(x, 2, 2, 2, 1, 1, -1, 1, 0);
        x.row(3, 2, 0);
        Check.fill(x, 4, 0, 1, 2, 1, 0, 0, 0);
        x.row(5, 1, 40);
        x.set(7, 0, 0);
    }

    /** As full(), and 24 acts more than those that can be undone. */
    static void manyActs(DebtFronts x) {
        full(x);
        for (int i = 0; i < 24; i++) {
            x.paint(i % 4, i % 10);
        }
    }
}
