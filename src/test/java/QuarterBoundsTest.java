/** Every sentence about QUARTERS that names a bound: Terms 2, promise 13. */
final class QuarterBoundsTest {
    private static final Check check = new Check();
    private static final String NOTHING = "person 0 0 open;";

    public static void main(String[] args) {
        seedsGoFrom0To999999();
        refusesWithoutTown();
        isFullBehind999();
        getsAllIncomeWithoutSeed();
        drawsFrom0ToIncome();
        drawsForEachInOrder();
        drawsBeginAnew();
        paysAsFarAsItGoes();
        paysInOrder();
        paysOutOfWhatJustCame();
        failsWhoPaysNothing();
        failsUntilHeOwesNothing();
        growsCutTowards0();
        growsUpTo99999();
        forgivesInEachNinth();
        forgivesBelowUnit();
        forgivesEachDebtByItself();
        forgivesWhatPaymentsLeave();
        growsNoneInANinth();
        nothingIsPaintedThen();
        quartersAreUndone();
        check.end();
    }

    private static void pass(DebtFronts x, int quarters) {
        for (int q = 0; q < quarters; q++) {
            x.quarter(0);
        }
    }

    /** Promise 13: "(SEED 1 to 999999, or 0: all INCOME): its number. BAD". */
    private static void seedsGoFrom0To999999() {
        DebtFronts x = new DebtFronts();
        Worlds.full(x);
        check.due("0", x.quarter(0), 2);
        check.due("1", x.quarter(1), 3);
        check.due("999999", x.quarter(999999), 4);
        check.due("count", x.count(3), 4);
        Twins full = new Twins(check, Worlds::full);
        int[] none = {-1, 1000000, Integer.MIN_VALUE, Integer.MAX_VALUE};
        for (int seed : none) {
            full.refuses("seed " + seed, Check.BAD, y -> y.quarter(seed));
        }
    }

    /** Promise 13: "STATE: no TOWN (ahead of BAD)". */
    private static void refusesWithoutTown() {
        Twins noTown = new Twins(check, Worlds::withoutTown);
        int[] seeds = {0, 1, 999999, -1, 1000000, Integer.MIN_VALUE, Integer.MAX_VALUE};
        for (int seed : seeds) {
            noTown.refuses("no TOWN, seed " + seed, Check.STATE, y -> y.quarter(seed));
        }
    }

    /**
     * Promise 13: "FULL: 999 are gone". No object is used for so many calls, so what is answered there is free;
     * this holds that it is as the promise says.
     */
    private static void isFullBehind999() {
        DebtFronts x = Check.townOf("law 10 0;person 0 1 open;" + NOTHING + "owes 1 0 15;");
        pass(x, 998);
        check.due("999", x.quarter(0), 999);
        check.due("cash", x.person(0, 0), 999);
        check.due("FULL", x.quarter(0), Check.FULL);
        check.due("FULL with a seed", x.quarter(5), Check.FULL);
        check.due("BAD ahead of FULL", x.quarter(-1), Check.BAD);
        check.due("gone", x.count(3), 999);
        check.due("cash stays", x.person(0, 0), 999);
        check.due("acts", x.count(4), 24);
        check.due("undone", x.undo(), 23);
        check.due("998 are gone", x.count(3), 998);
        check.due("999 again", x.quarter(0), 999);
    }

    private static void getsAllIncomeWithoutSeed() {
        DebtFronts x = Check.townOf("law 1 0;person 999 99 open;person 0 0 hedge;person 0 1 hedge;");
        x.quarter(0);
        check.due("99", x.person(0, 0), 1098);
        check.due("0", x.person(1, 0), 0);
        check.due("1, behind a hedge", x.person(2, 0), 1);
        check.due("INCOME stays", x.person(0, 1), 99);
    }

    /** Terms 2: "X becomes the rest of (X times 16807) by 2147483647; the rest of X by (INCOME and 1)". */
    private static void drawsFrom0ToIncome() {
        int[] incomes = {0, 1, 2, 98, 99};
        for (int income : incomes) {
            int least = 1000;
            int most = -1;
            for (int part = 0; part < 5; part++) {
                DebtFronts x = Check.townOf("law 1 0;person 0 " + income + " open;");
                for (int i = 0; i < 150; i++) {
                    int seed = part == 4 ? 999999 - i : 1 + 150 * part + i;
                    x.quarter(seed);
                    int drawn = x.person(0, 0);
                    check.due("income " + income + " by " + seed, drawn, 16807L * seed % 2147483647 % (income + 1));
                    least = Math.min(least, drawn);
                    most = Math.max(most, drawn);
                    x.undo();
                }
            }
            check.due("the least of " + income, least, 0);
            check.due("the most of " + income, most, income);
        }
    }

    private static void drawsForEachInOrder() {
        int[] incomes = {99, 0, 98, 1, 50, 0, 7};
        StringBuilder text = new StringBuilder("law 1 0;");
        for (int income : incomes) {
            text.append("person 0 ").append(income).append(" open;");
        }
        int[] seeds = {1, 2, 127773, 127774, 2836, 500000, 999998, 999999};
        for (int seed : seeds) {
            DebtFronts x = Check.townOf(text.toString());
            x.quarter(seed);
            long drawn = seed;
            for (int p = 0; p < 7; p++) {
                drawn = drawn * 16807 % 2147483647;
                check.due("seed " + seed + ", " + p, x.person(p, 0), drawn % (incomes[p] + 1));
            }
        }
    }

    private static void drawsBeginAnew() {
        DebtFronts x = Check.townOf("law 1 0;person 0 99 open;person 0 99 open;");
        x.quarter(4321);
        int first = x.person(0, 0);
        int second = x.person(1, 0);
        x.quarter(4321);
        check.due("the same again", x.person(0, 0), 2 * first);
        check.due("and for the second", x.person(1, 0), 2 * second);
    }

    /** Terms 2: "out of his CASH, as far as that goes". */
    private static void paysAsFarAsItGoes() {
        for (int cash = 0; cash <= 8; cash++) {
            DebtFronts x = Check.townOf("law 1 0;person " + cash + " 0 open;" + NOTHING.repeat(2) + "owes 0 1 3;owes 0 2 4;");
            x.quarter(0);
            check.due("to the first, of " + cash, x.person(0, 11), Math.max(3 - cash, 0));
            check.due("to the second, of " + cash, x.person(0, 12), Math.max(4 - Math.max(cash - 3, 0), 0));
            check.due("has, of " + cash, x.person(0, 0), Math.max(cash - 7, 0));
            check.due("it came to the first", x.person(1, 0), Math.min(cash, 3));
            check.due("and to the second", x.person(2, 0), Math.min(Math.max(cash - 3, 0), 4));
            check.due("FAILED, of " + cash, x.person(0, 6), cash == 0 ? 1 : 0);
        }
    }

    /** Terms 2: "one pays others, in order, what he owes them". */
    private static void paysInOrder() {
        DebtFronts x = Check.townOf("law 1 0;" + NOTHING.repeat(3) + "person 10 0 open;" + NOTHING.repeat(3)
                + "owes 3 6 4;owes 3 0 4;owes 3 4 4;owes 3 2 1;");
        x.quarter(0);
        int[] left = {0, 0, 0, 0, 0, 0, 3};
        for (int p = 0; p < 7; p++) {
            check.due("owes " + p, x.person(3, 10 + p), left[p]);
        }
    }

    /** Terms 2: "it comes to their CASH at once". */
    private static void paysOutOfWhatJustCame() {
        DebtFronts x = Check.townOf("law 1 0;person 5 0 open;" + NOTHING.repeat(2) + "owes 0 1 5;owes 1 2 5;owes 2 0 5;");
        x.quarter(0);
        check.due("round about", x.person(0, 0), 5);
        check.due("no debts", x.count(2), 0);
        x = Check.townOf("law 1 0;" + NOTHING.repeat(2) + "person 5 0 open;owes 2 1 5;owes 1 0 5;owes 0 2 5;");
        x.quarter(0);
        check.due("not backwards", x.person(1, 0), 5);
        check.due("0 was ahead", x.person(0, 6), 1);
        check.due("1 was ahead", x.person(1, 6), 1);
        check.due("2 paid", x.person(2, 6), 0);
    }

    /** Terms 2: "who owed something ahead of that, and paid nothing, has FAILED". */
    private static void failsWhoPaysNothing() {
        DebtFronts x = Check.townOf("law 1 0;" + NOTHING + "person 0 1 open;" + NOTHING + "person 0 99 open;owes 0 3 1;owes 1 3 9;");
        x.quarter(0);
        check.due("owed 1, paid nothing", x.person(0, 6), 1);
        check.due("paid 1 of 9", x.person(1, 6), 0);
        check.due("owed nothing, has nothing", x.person(2, 6), 0);
        check.due("owed nothing", x.person(3, 6), 0);
        // a draw of 0 is nothing
        for (int seed = 1; seed <= 40; seed++) {
            x = Check.townOf("law 1 0;person 0 1 open;" + NOTHING + "owes 0 1 9;");
            x.quarter(seed);
            long drawn = 16807L * seed % 2147483647 % 2;
            check.due("drawn by " + seed, x.person(0, 6), drawn == 0 ? 1 : 0);
        }
    }

    /** 0 owes 1 so much, and fails in the first QUARTER; behind him 2 pays him 5. */
    private static DebtFronts failedWith5(int owed) {
        DebtFronts x = Check.townOf("law 1 0;" + NOTHING.repeat(2) + "person 0 5 open;owes 2 0 5;owes 0 1 " + owed + ";");
        x.quarter(0);
        check.due("FAILED", x.person(0, 6), 1);
        check.due("has 5", x.person(0, 0), 5);
        check.due("2 has not", x.person(2, 6), 0);
        return x;
    }

    /** Terms 2: "who owes nothing behind 2 has not (any more)". */
    private static void failsUntilHeOwesNothing() {
        for (int owed = 1; owed <= 9; owed++) {
            DebtFronts x = failedWith5(owed);
            x.quarter(0);
            check.due("owed by him", x.person(0, 2), Math.max(owed - 5, 0));
            check.due("who paid 5 of " + owed, x.person(0, 6), owed <= 5 ? 0 : 1);
            x.quarter(0);
            check.due("a quarter later", x.person(0, 6), owed <= 5 ? 0 : 1);
        }
        DebtFronts x = failedWith5(3);
        check.due("he pays all between", x.pay(0, 1, 3), 0);
        check.due("it is told in a QUARTER alone", x.person(0, 6), 1);
        x.quarter(0);
        check.due("he owes nothing", x.person(0, 6), 0);
        x = failedWith5(1);
        x.quarter(0);
        x.loan(0, 2, 4);
        x.loan(1, 0, 8);
        check.due("nobody has", x.person(0, 6), 0);
        x.quarter(0);
        check.due("he has again", x.person(0, 6), 1);
    }

    /** Terms 2: "Each debt becomes more by RATE times it by 100", cut. */
    private static void growsCutTowards0() {
        int[] rates = {0, 1, 3, 19, 20};
        int[] debts = {1, 4, 5, 6, 9, 10, 33, 34, 99, 100, 101, 199, 200, 998, 999};
        for (int rate : rates) {
            for (int debt : debts) {
                DebtFronts x = Check.townOf("law 1 " + rate + ";" + NOTHING.repeat(2) + "owes 1 0 " + debt + ";");
                x.quarter(0);
                check.due(debt + " by " + rate, x.person(1, 10), debt + rate * debt / 100);
            }
        }
        DebtFronts x = Check.townOf("law 1 20;" + NOTHING.repeat(7) + "owes 0 6 5;owes 6 0 10;owes 6 5 15;owes 2 3 4;");
        x.quarter(0);
        check.due("0 to 6", x.person(0, 16), 6);
        check.due("6 to 0", x.person(6, 10), 12);
        check.due("6 to 5, each by itself", x.person(6, 15), 18);
        check.due("2 to 3", x.person(2, 13), 4);
        check.due("no other debt came", x.count(2), 4);
    }

    private static void owes(DebtFronts x, int debt) {
        Check.read(x, "law 20 20;person 0 0 open;person 999 0 open;owes 0 1 999;owes 0 1 999;owes 0 1 999;");
        pass(x, 19);
        for (int left = debt - x.person(0, 11); left > 0; left = debt - x.person(0, 11)) {
            int n = Math.min(left, 999);
            x.loan(0, 1, n);
            x.loan(1, 0, n);
        }
    }

    /** Terms 2: "99999 at most". */
    private static void growsUpTo99999() {
        int[][] debts = {{83332, 99998}, {83333, 99999}, {83334, 99999}, {83335, 99999}, {99998, 99999}, {99999, 99999}};
        for (int[] debt : debts) {
            DebtFronts x = new DebtFronts();
            owes(x, debt[0]);
            check.due("ahead", x.person(0, 11), debt[0]);
            check.due("0 has nothing", x.person(0, 0), 0);
            check.due("quarter", x.quarter(0), 20);
            check.due(debt[0] + " grown", x.person(0, 11), debt[1]);
        }
    }

    /** Terms 2: "in QUARTERS 9, 18 .. (the first is 1) each debt below UNIT is forgiven". */
    private static void forgivesInEachNinth() {
        for (int q = 1; q <= 37; q++) {
            DebtFronts x = Check.townOf("law 10 0;" + NOTHING.repeat(2) + "person 3 0 open;");
            pass(x, q - 1);
            x.loan(0, 2, 3);
            // 1 stands behind 0, who so has nothing when it is his turn
            x.loan(1, 0, 3);
            check.due("quarter", x.quarter(0), q);
            check.due("owed behind " + q, x.person(0, 12), q % 9 == 0 ? 0 : 3);
        }
    }

    /** Terms 2: "each debt below UNIT". */
    private static void forgivesBelowUnit() {
        for (int unit = 1; unit <= 20; unit++) {
            StringBuilder text = new StringBuilder("law " + unit + " 0;" + NOTHING.repeat(4));
            text.append("owes 0 1 ").append(unit).append(";owes 1 2 ").append(unit + 1).append(";owes 3 0 1;");
            if (unit > 1) {
                text.append("owes 2 3 ").append(unit - 1).append(';');
            }
            DebtFronts x = Check.townOf(text.toString());
            pass(x, 8);
            check.due("none ahead", x.count(2), unit > 1 ? 4 : 3);
            x.quarter(0);
            check.due("UNIT " + unit + " itself", x.person(0, 11), unit);
            check.due("UNIT " + unit + " and 1", x.person(1, 12), unit + 1);
            check.due("UNIT " + unit + " less 1", x.person(2, 13), 0);
            check.due("1 of UNIT " + unit, x.person(3, 10), unit > 1 ? 0 : 1);
        }
    }

    private static void forgivesEachDebtByItself() {
        DebtFronts x = Check.townOf("law 10 0;" + NOTHING.repeat(7) + "owes 0 1 9;owes 0 2 9;owes 0 3 10;owes 6 0 9;owes 6 5 30;");
        pass(x, 9);
        check.due("9 of 28", x.person(0, 11), 0);
        check.due("9 more of them", x.person(0, 12), 0);
        check.due("10 stay", x.person(0, 13), 10);
        check.due("OWED", x.person(0, 2), 10);
        check.due("of the last", x.person(6, 10), 0);
        check.due("30 stay", x.person(6, 15), 30);
        check.due("debts", x.count(2), 2);
    }

    private static void forgivesWhatPaymentsLeave() {
        for (int cash = 4; cash <= 6; cash++) {
            DebtFronts x = Check.townOf("law 10 0;person 0 0 open;person 0 0 open;person " + cash + " 0 open;owes 0 1 15;");
            pass(x, 8);
            x.loan(0, 2, cash);
            x.quarter(0);
            check.due("15 less " + cash, x.person(0, 11), cash > 5 ? 0 : 15 - cash);
            check.due("the new one, below UNIT", x.person(0, 12), 0);
        }
    }

    /** Terms 2: "and none grows". */
    private static void growsNoneInANinth() {
        DebtFronts x = Check.townOf("law 1 20;" + NOTHING.repeat(2) + "owes 0 1 10;");
        int owed = 10;
        for (int q = 1; q <= 28; q++) {
            x.quarter(0);
            owed = q % 9 == 0 ? owed : owed + owed / 5;
            check.due("behind " + q, x.person(0, 2), owed);
        }
    }

    /** Terms 2: "Nothing is PAINTED then." */
    private static void nothingIsPaintedThen() {
        DebtFronts x = Check.townOf("law 1 0;" + NOTHING.repeat(7) + "owes 0 6 5;owes 6 0 4;");
        for (int q = 1; q <= 10; q++) {
            for (int p = 0; p < 7; p++) {
                x.paint(p, (p + q) % 10);
            }
            check.due("quarter", x.quarter(0), q);
            for (int p = 0; p < 7; p++) {
                check.due("behind " + q + ", " + p, x.person(p, 4), x.person(p, 3));
            }
            check.due("nobody cheats", x.cheats(), 0);
        }
    }

    private static void quartersAreUndone() {
        DebtFronts x = Check.townOf("law 10 20;" + NOTHING.repeat(2) + "owes 0 1 5;");
        pass(x, 8);
        x.image(0);
        int owed = x.person(0, 2);
        for (int again = 0; again < 3; again++) {
            check.due("9", x.quarter(0), 9);
            check.due("as it is in a ninth", x.person(0, 2), owed < 10 ? 0 : owed);
            check.due("undone", x.undo(), 8);
            check.due("8 are gone", x.count(3), 8);
            check.due("owed again", x.person(0, 2), owed);
        }
        x.quarter(0);
        x.quarter(0);
        check.due("restored", x.restore(0), 1);
        check.due("8 are gone again", x.count(3), 8);
        check.due("9 again", x.quarter(0), 9);
    }
}
