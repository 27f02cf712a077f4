/** Promises 9 to 12, 14, 15: loan, pay, paint, hedge, undo, person. */
final class ActsTest {
    private static final Check check = new Check();
    private static final String TOWN =
            "law 10 5;person 100 1 open;person 999 2 hedge;person 0 3 open;owes 0 1 35;owes 2 0 8;";

    public static void main(String[] args) {
        lends();
        lendsUpToTheMost();
        pays();
        paints();
        hedges();
        undoes();
        forgetsTheOldest();
        tellsOfPeople();
        check.end();
    }

    private static void lends() {
        DebtFronts x = Check.townOf(TOWN);
        check.due("loan", x.loan(0, 1, 100), 135);
        check.due("a has more", x.person(0, 0), 200);
        check.due("b has less", x.person(1, 0), 899);
        check.due("all he has", x.loan(2, 1, 899), 899);
        check.due("b has nothing", x.loan(2, 1, 1), Check.STATE);
        check.due("alike", x.loan(0, 0, 1), Check.BAD);
        check.due("no a", x.loan(3, 0, 1), Check.BAD);
        check.due("no b", x.loan(0, -1, 1), Check.BAD);
        check.due("n 0", x.loan(0, 2, 0), Check.BAD);
        check.due("n 1000", x.loan(0, 2, 1000), Check.BAD);
        check.due("no netting", x.loan(0, 2, 20), 20);
        check.due("the other way stays", x.person(2, 10), 8);
        check.due("acts", x.count(4), 3);
        check.due("no town", new DebtFronts().loan(0, 1, 1), Check.BAD);
    }

    private static void lendsUpToTheMost() {
        DebtFronts x = Check.townOf("law 1 20;person 0 0 open;person 999 0 open;owes 0 1 999;");
        for (int i = 0; i < 40; i++) {
            x.quarter(0);
        }
        check.due("99999 at most", x.person(0, 11), 99999);
        check.due("FULL", x.loan(0, 1, 1), Check.FULL);
        check.due("FULL by all he has", x.loan(0, 1, 999), Check.FULL);
        check.due("he has it yet", x.person(1, 0), 999);
        x.loan(1, 0, 1);
        check.due("b has nothing: STATE", x.loan(1, 0, 1), Check.STATE);
        DebtFronts y = Check.townOf("law 1 20;person 0 0 open;person 99 0 open;owes 0 1 999;");
        for (int i = 0; i < 40; i++) {
            y.quarter(0);
        }
        check.due("STATE is ahead of FULL", y.loan(0, 1, 100), Check.STATE);
        check.due("FULL is behind it", y.loan(0, 1, 99), Check.FULL);
        check.due("nothing changed", y.person(1, 0), 99);
    }

    private static void pays() {
        DebtFronts x = Check.townOf(TOWN);
        check.due("pay", x.pay(0, 1, 5), 30);
        check.due("a", x.person(0, 0), 95);
        check.due("b", x.person(1, 0), 1004);
        check.due("more than he owes", x.pay(0, 1, 31), Check.STATE);
        check.due("more than he has", x.pay(2, 0, 1), Check.STATE);
        check.due("all", x.pay(0, 1, 30), 0);
        check.due("nothing is owed", x.pay(0, 1, 1), Check.STATE);
        check.due("alike", x.pay(0, 0, 1), Check.BAD);
        check.due("no a", x.pay(-1, 0, 1), Check.BAD);
        check.due("no b", x.pay(0, 3, 1), Check.BAD);
        check.due("n 0", x.pay(0, 1, 0), Check.BAD);
        check.due("n 99999", x.pay(0, 1, 99999), Check.STATE);
        check.due("n 100000", x.pay(0, 1, 100000), Check.BAD);
        check.due("acts", x.count(4), 2);
    }

    private static void paints() {
        DebtFronts x = Check.townOf(TOWN);
        check.due("paint", x.paint(0, 0), 3);
        check.due("looks", x.person(0, 4), 0);
        check.due("shade stays", x.person(0, 3), 3);
        check.due("again", x.paint(0, 9), 0);
        x.loan(0, 1, 50);
        check.due("stays as it is painted", x.person(0, 4), 9);
        check.due("v below", x.paint(0, -1), Check.BAD);
        check.due("v above", x.paint(0, 10), Check.BAD);
        check.due("nobody", x.paint(3, 1), Check.BAD);
        check.due("acts", x.count(4), 3);
    }

    private static void hedges() {
        DebtFronts x = Check.townOf(TOWN);
        check.due("goes", x.hedge(1, 0), 1);
        check.due("hidden no more", x.person(1, 5), 0);
        check.due("comes", x.hedge(2, 1), 0);
        check.due("hidden", x.person(2, 5), 1);
        check.due("the same again", x.hedge(2, 1), 1);
        check.due("is below", x.hedge(0, -1), Check.BAD);
        check.due("is above", x.hedge(0, 2), Check.BAD);
        check.due("nobody", x.hedge(-1, 0), Check.BAD);
        check.due("acts", x.count(4), 3);
    }

    private static void undoes() {
        DebtFronts x = new DebtFronts();
        check.due("none", x.undo(), Check.STATE);
        x = Check.townOf(TOWN);
        x.loan(0, 1, 10);
        x.pay(0, 1, 40);
        x.paint(0, 7);
        x.hedge(0, 1);
        x.quarter(5);
        check.due("five", x.count(4), 5);
        check.due("quarter undone", x.undo(), 4);
        check.due("QUARTER", x.count(3), 0);
        check.due("CASH", x.person(0, 0), 70);
        check.due("painted again", x.person(0, 4), 7);
        check.due("hedge undone", x.undo(), 3);
        check.due("not hidden", x.person(0, 5), 0);
        check.due("paint undone", x.undo(), 2);
        check.due("looks", x.person(0, 4), 0);
        check.due("pay undone", x.undo(), 1);
        check.due("owes", x.person(0, 11), 45);
        check.due("has", x.person(0, 0), 110);
        check.due("loan undone", x.undo(), 0);
        check.due("owes", x.person(0, 11), 35);
        check.due("b has", x.person(1, 0), 999);
        check.due("none more", x.undo(), Check.STATE);
    }

    private static void forgetsTheOldest() {
        DebtFronts x = Check.townOf(TOWN);
        for (int i = 0; i < 30; i++) {
            check.due("loan " + i, x.loan(2, 1, 1), i + 1);
            check.due("kept " + i, x.count(4), Math.min(i + 1, 24));
        }
        for (int i = 23; i >= 0; i--) {
            check.due("undo " + i, x.undo(), i);
            check.due("owed " + i, x.person(2, 11), i + 6);
        }
        check.due("forgotten", x.undo(), Check.STATE);
        check.due("owed", x.person(2, 11), 6);
        x.loan(2, 1, 4);
        check.due("and on", x.undo(), 0);
        check.due("owed", x.person(2, 11), 6);
    }

    private static void tellsOfPeople() {
        DebtFronts x = Check.townOf(TOWN);
        int[] first = {100, 1, 35, 3, 3, 0, 0, -27};
        int[] second = {999, 2, 0, 0, 0, 1, 0, 35};
        for (int what = 0; what < 8; what++) {
            check.due("person 0 " + what, x.person(0, what), first[what]);
            check.due("person 1 " + what, x.person(1, what), second[what]);
        }
        check.due("himself", x.person(0, 10), 0);
        check.due("another", x.person(2, 10), 8);
        check.due("8", x.person(0, 8), Check.BAD);
        check.due("9", x.person(0, 9), Check.BAD);
        check.due("13", x.person(0, 13), Check.BAD);
        check.due("-1", x.person(0, -1), Check.BAD);
        check.due("nobody", x.person(3, 0), Check.BAD);
        check.due("nobody below", x.person(-1, 0), Check.BAD);
        check.due("most", x.person(0, Integer.MAX_VALUE), Check.BAD);
    }
}
