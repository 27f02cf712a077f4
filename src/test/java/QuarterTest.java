/** Promise 13: quarter. */
final class QuarterTest {
    private static final Check check = new Check();

    public static void main(String[] args) {
        refuses();
        bringsIncomes();
        drawsIncomes();
        paysInOrder();
        fails();
        growsAndForgives();
        paintsNothing();
        check.end();
    }

    private static void refuses() {
        DebtFronts x = new DebtFronts();
        check.due("no town", x.quarter(0), Check.STATE);
        check.due("no town ahead of BAD", x.quarter(-1), Check.STATE);
        x = Check.townOf("law 1 0;person 0 0 open;");
        check.due("seed below", x.quarter(-1), Check.BAD);
        check.due("seed above", x.quarter(1000000), Check.BAD);
        check.due("nothing is gone", x.count(3), 0);
        check.due("seed most", x.quarter(999999), 1);
        check.due("acts", x.count(4), 1);
    }

    private static void bringsIncomes() {
        DebtFronts x = Check.townOf("law 1 0;person 1 99 open;person 2 0 hedge;");
        check.due("1", x.quarter(0), 1);
        check.due("income", x.person(0, 0), 100);
        check.due("none", x.person(1, 0), 2);
        check.due("2", x.quarter(0), 2);
        check.due("income", x.person(0, 0), 199);
        check.due("gone", x.count(3), 2);
    }

    private static void drawsIncomes() {
        DebtFronts x = Check.townOf("law 1 0;person 0 99 open;person 0 0 open;person 0 98 open;person 0 1 open;");
        x.quarter(999999);
        long a = 999999L * 16807 % 2147483647;
        long b = a * 16807 % 2147483647;
        long c = b * 16807 % 2147483647;
        long d = c * 16807 % 2147483647;
        check.due("first", x.person(0, 0), a % 100);
        check.due("no income draws too", x.person(1, 0), 0);
        check.due("third", x.person(2, 0), c % 99);
        check.due("fourth", x.person(3, 0), d % 2);
        x.undo();
        x.quarter(1);
        check.due("seed 1", x.person(0, 0), 16807 % 100);
        check.due("seed 1, third", x.person(2, 0), 1622650073 % 99);
    }

    private static void paysInOrder() {
        DebtFronts x = Check.townOf("law 1 0;person 0 0 open;person 10 0 open;person 0 0 open;"
                + "owes 1 2 6;owes 1 0 7;owes 2 0 3;owes 0 2 1;");
        x.quarter(0);
        check.due("0 was ahead of his money", x.person(0, 12), 1);
        check.due("1 pays 0 first", x.person(1, 10), 0);
        check.due("then 2, as far as it goes", x.person(1, 12), 3);
        check.due("2 pays out of what came", x.person(2, 10), 0);
        check.due("0 has it all", x.person(0, 0), 10);
        check.due("0 FAILED", x.person(0, 6), 1);
        check.due("1 paid something", x.person(1, 6), 0);
        check.due("2 paid all", x.person(2, 6), 0);
        x.quarter(0);
        check.due("0 has not any more", x.person(0, 6), 0);
        check.due("1 has now", x.person(1, 6), 1);
    }

    private static void fails() {
        DebtFronts x = Check.townOf("law 1 0;person 0 0 open;person 50 0 open;owes 0 1 10;");
        x.quarter(0);
        check.due("FAILED", x.person(0, 6), 1);
        x.loan(0, 1, 4);
        x.quarter(0);
        check.due("who pays a part has it yet", x.person(0, 6), 1);
        x.loan(1, 0, 1);
        x.loan(0, 1, 20);
        x.pay(0, 1, 20);
        check.due("and outside a quarter", x.person(0, 6), 1);
        check.due("owes 10 again", x.person(0, 2), 10);
        Check.read(x, "law 1 0;person 0 0 open;person 9 0 open;person 50 0 open;owes 0 1 10;");
        check.due("nobody in a new town", x.person(0, 6), 0);
        x.quarter(0);
        x.loan(0, 2, 40);
        x.pay(0, 1, 10);
        x.pay(0, 2, 30);
        check.due("owes 10 to another", x.person(0, 12), 10);
        x.quarter(0);
        check.due("nothing paid again", x.person(0, 6), 1);
        x.loan(1, 2, 1);
        x.quarter(0);
        check.due("who pays all at once", x.person(1, 6), 0);
        x.loan(0, 2, 10);
        x.loan(2, 1, 9);
        x.loan(0, 2, 10);
        x.quarter(0);
        check.due("a part again", x.person(0, 6), 1);
    }

    private static void growsAndForgives() {
        DebtFronts x = Check.townOf("law 10 20;person 0 0 open;person 0 0 open;person 0 0 open;"
                + "owes 0 1 4;owes 1 0 9;owes 0 2 10;owes 2 0 5;");
        int[] debts = {4, 9, 10, 5};
        for (int q = 1; q <= 18; q++) {
            check.due("quarter", x.quarter(0), q);
            for (int i = 0; i < 4; i++) {
                if (q % 9 == 0) {
                    debts[i] = debts[i] < 10 ? 0 : debts[i];
                } else {
                    debts[i] += debts[i] * 20 / 100;
                }
            }
            check.due("0 to 1 in " + q, x.person(0, 11), debts[0]);
            check.due("1 to 0 in " + q, x.person(1, 10), debts[1]);
            check.due("0 to 2 in " + q, x.person(0, 12), debts[2]);
            check.due("2 to 0 in " + q, x.person(2, 10), debts[3]);
        }
        check.due("forgiven", x.person(0, 11), 0);
        DebtFronts y = Check.townOf("law 10 0;person 0 0 open;person 0 0 open;person 0 0 open;owes 0 1 9;owes 1 2 10;");
        for (int q = 1; q <= 9; q++) {
            y.quarter(0);
        }
        check.due("below UNIT", y.person(0, 11), 0);
        check.due("UNIT itself stays", y.person(1, 12), 10);
        check.due("FAILED behind 2, forgiven in 3", y.person(0, 6), 1);
        check.due("his KIND", y.kind(0), 3);
        y.quarter(0);
        check.due("owes nothing behind the next 2", y.person(0, 6), 0);
    }

    private static void paintsNothing() {
        DebtFronts x = Check.townOf("law 1 0;person 0 0 open;person 0 0 open;owes 0 1 5;");
        x.paint(0, 1);
        x.paint(1, 9);
        x.quarter(0);
        check.due("looks as his SHADE", x.person(0, 4), 5);
        check.due("and he", x.person(1, 4), 0);
        x.undo();
        check.due("undone", x.person(1, 4), 9);
    }
}
