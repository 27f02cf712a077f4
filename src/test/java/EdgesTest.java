/** Edges of many promises at once: seven people, debts of 1, the first person, the most that is told. */
final class EdgesTest {
    private static final Check check = new Check();

    public static void main(String[] args) {
        sevenPeople();
        debtsOfOne();
        theFirstPerson();
        lendsToTheMost();
        restoresWithoutActs();
        forgivesAllOver();
        readsNoOldBytes();
        readsOddNames();
        check.end();
    }

    /** Each owes the next one 10, the last one the first: SHADE 9, nobody has cash. */
    private static DebtFronts ring() {
        StringBuilder text = new StringBuilder("law 1 10;");
        for (int p = 0; p < 7; p++) {
            text.append("person 0 ").append(p).append(p == 6 ? " hedge;" : " open;");
        }
        for (int p = 0; p < 7; p++) {
            text.append("owes ").append(p).append(' ').append((p + 1) % 7).append(" 10;");
        }
        return Check.townOf(text.toString());
    }

    private static void sevenPeople() {
        DebtFronts x = ring();
        for (int p = 0; p < 7; p++) {
            check.due("OWED " + p, x.person(p, 2), 10);
            check.due("NET " + p, x.person(p, 7), 0);
            check.due("SHADE " + p, x.person(p, 3), 9);
            check.due("kind " + p, x.kind(p), 2);
            check.due("owes the next " + p, x.person(p, 10 + (p + 1) % 7), 10);
        }
        check.due("17", x.person(6, 17), Check.BAD);
        check.due("hiding", x.hiding(0), 0);
        check.due("struck", x.hiding(1), 0);
        check.due("coin", x.coin(7), 14);
        check.due("clear", x.clear(13), 6);
        check.due("clear all", x.clear(14), 7);
        check.due("cheats", x.cheats(), 0);
        check.due("walk", x.walk(0, 6), 0);
        check.due("run", x.run(9, 0), 2);
        check.due("short", x.run(9, 1), 127);
        check.due("called", x.run(9, 2), 127);
        check.due("debts", x.count(2), 7);
        check.due("cash", x.count(5), 0);
        check.due("quarter", x.quarter(0), 1);
        check.due("cash", x.count(5), 21);
        check.due("the first had nothing", x.person(0, 6), 1);
        check.due("6 paid the first 10 of 16", x.person(6, 10), 0);
        for (int p = 0; p < 6; p++) {
            x.hedge(p, 1);
        }
        check.due("all are hidden", x.walk(0, 6), Check.NONE);
        check.due("nobody is seen", x.run(1, 0), 0);
        // one after another is called: as many rounds as there can be
        DebtFronts y = Check.townOf("law 1 0;person 0 0 open;" + "person 0 0 hedge;".repeat(6) + "owes 0 1 1;owes 1 2 1;"
                + "owes 2 3 1;owes 3 4 1;owes 4 5 1;owes 5 6 1;");
        check.due("seven rounds", y.run(1, 0), 7);
        check.due("all but the last are short", y.run(1, 1), 63);
        check.due("all are called", y.run(1, 2), 127);
    }

    private static void debtsOfOne() {
        DebtFronts x = Check.townOf("law 2 0;person 0 0 open;person 0 0 open;person 5 0 open;owes 0 1 1;");
        check.due("debts", x.count(2), 1);
        check.due("DEBTOR by 1", x.kind(0), 1);
        check.due("LENDER by 1", x.kind(1), 5);
        check.due("FREE", x.kind(2), 4);
        x.paint(0, 1);
        check.due("SHORT by 1", x.run(1, 1), 1);
        check.due("CALLED by 1", x.run(1, 2), 3);
        x.quarter(0);
        check.due("FAILED by 1", x.person(0, 6), 1);
        check.due("who owed nothing has not", x.person(2, 6), 0);
    }

    private static void theFirstPerson() {
        DebtFronts x = Check.townOf("law 10 0;person 7 0 open;person 5 0 open;person 0 0 open;"
                + "owes 0 1 15;owes 1 0 6;owes 1 2 90;owes 2 0 9;");
        check.due("hiding", x.hiding(0), 1);
        check.due("debts", x.count(2), 4);
        check.due("cash of all", x.count(5), 12);
        check.due("1 owes him 1 yet", x.run(9, 2), 7);
        check.due("needs, the lesser last", x.coin(1), 6);
        check.due("both", x.coin(2), 6 + 7);
        DebtFronts y = Check.townOf("law 10 0;person 0 0 open;person 0 0 open;owes 0 1 19;owes 1 0 10;");
        check.due("the lesser need comes last", y.coin(1), 1);
        DebtFronts z = Check.townOf("law 10 0;person 7 0 open;person 5 0 open;person 0 0 open;owes 1 2 90;");
        check.due("whom nobody owes is not called", z.run(9, 2), 6);
    }

    private static void lendsToTheMost() {
        DebtFronts x = Check.townOf("law 20 20;person 0 0 open;person 999 0 open;owes 0 1 999;");
        int debt = 999;
        int q = 0;
        while (debt * 120 / 100 < 99999) {
            q++;
            x.quarter(0);
            debt = q % 9 == 0 ? debt : debt + debt * 20 / 100;
        }
        check.due("just below", x.person(0, 11), debt);
        int round = 0;
        while (debt < 99999 && round < 60) {
            int n = Math.min(999, 99999 - debt);
            debt += n;
            check.due("loan", x.loan(0, 1, n), debt);
            if (debt < 99999) {
                check.due("and back as another's", x.loan(1, 0, n), x.person(1, 10));
            }
            round++;
        }
        check.due("99999 is fine", x.person(0, 11), 99999);
        check.due("acts", x.count(4), 24);
        x.loan(1, 0, 1);
        check.due("above is not", x.loan(0, 1, 1), Check.FULL);
    }

    private static void restoresWithoutActs() {
        DebtFronts x = ring();
        x.paint(0, 3);
        x.image(0);
        x.paint(0, 5);
        check.due("acts", x.count(4), 2);
        check.due("restore", x.restore(0), 1);
        check.due("none can be undone", x.count(4), 0);
        check.due("undo", x.undo(), Check.STATE);
        check.due("looks", x.person(0, 4), 3);
        x.paint(0, 8);
        check.due("a new act", x.undo(), 0);
        check.due("looks", x.person(0, 4), 3);
    }

    private static void forgivesAllOver() {
        DebtFronts x = Check.townOf("law 20 0;" + "person 0 0 open;".repeat(7) + "owes 6 5 19;owes 5 6 20;owes 3 2 1;");
        for (int q = 1; q <= 9; q++) {
            x.quarter(0);
        }
        check.due("19 is forgiven", x.person(6, 15), 0);
        check.due("20 is not", x.person(5, 16), 20);
        check.due("1 is forgiven", x.person(3, 12), 0);
        check.due("one is left", x.count(2), 1);
        Check.read(x, "law 1 0;" + "person 0 0 open;".repeat(7));
        check.due("no debt of the town before", x.count(2), 0);
        x = Check.townOf("law 1 0;" + "person 0 0 open;".repeat(7) + "owes 6 5 19;owes 5 6 20;owes 0 1 1;");
        Check.read(x, "law 1 0;" + "person 0 0 open;".repeat(7));
        check.due("no debt of the text before", x.count(2), 0);
        Check.read(x, "law 1 0;person 0 0 hedge;person 0 0 open;");
        Check.read(x, "law 1 0;person 0 0 open;person 0 0 hedge;");
        check.due("no hedge of the text before", x.person(0, 5), 0);
        Check.read(x, "law 1 0;person 0 0 hedge;person 0 0 hed;");
        Check.read(x, "law 1 0;person 0 0 open;");
        check.due("nor of a text with a FAULT", x.person(0, 5), 0);
    }

    private static void readsNoOldBytes() {
        DebtFronts x = new DebtFronts();
        check.due("lawx", Check.read(x, "lawx"), -1000100);
        check.due("law and nothing more", Check.read(x, "law"), -1000103);
        check.due("a number", Check.read(x, "law 12;"), -1000106);
        check.due("a lesser number", Check.read(x, "law 1"), -1000105);
        check.due("fault", x.fault(), 1);
        check.due("letters up to the end", Check.read(x, "a".repeat(400)), -1000100);
        check.due("figures up to the end", Check.read(x, "law" + "1".repeat(397)), -1000103);
        check.due("fault", x.fault(), 1);
        check.due("a sign at the end", Check.read(x, "law 1 1" + " ".repeat(392) + ";"), -1000500);
    }

    private static void readsOddNames() {
        String[] odd = {"xaw", "lxw", "lax", "z", "lawz", "lawa"};
        for (String name : odd) {
            check.due(name, Check.read(new DebtFronts(), name + " 1 1;"), -1000100);
        }
        check.due("z ends no name", Check.read(new DebtFronts(), "lawz1 1;"), -1000100);
        check.due("hedges", Check.read(new DebtFronts(), "law 1 1;person 0 0 hedges;"), -1000119);
        check.due("opem", Check.read(new DebtFronts(), "law 1 1;person 0 0 opem;"), -1000119);
        check.due("persona", Check.read(new DebtFronts(), "law 1 1;persona 0 0 open;"), -1000108);
    }
}
