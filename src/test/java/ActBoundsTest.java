/** Every sentence about ACTS and PEOPLE that names a bound: Terms 2, promises 9 to 12, 14, 15. */
final class ActBoundsTest {
    private static final Check check = new Check();
    private static final int MOST = Integer.MAX_VALUE;
    private static final int LEAST = Integer.MIN_VALUE;
    private static final int[] NOBODY = {-1, 4, 7, LEAST, MOST};
    private static final Twins full = new Twins(check, Worlds::full);
    private static final Twins noTown = new Twins(check, Worlds::withoutTown);

    public static void main(String[] args) {
        loansAreOf1To999();
        loansAreOfUnlikePeople();
        loansAreOfWhatHeHas();
        loansGoUpTo99999();
        loanIsBadAheadOfStateAheadOfFull();
        paymentsAreOf1AndMore();
        paysUpTo99999();
        paymentsAreOfUnlikePeople();
        paysNoMoreThanHeOwes();
        paysNoMoreThanHeHas();
        payIsBadAheadOfState();
        paints0To9();
        hedgesAre0Or1();
        undoesTheLatestFirst();
        undoesNoneWhereNoneIs();
        keeps24Acts();
        refusedActsAreNotKept();
        shadesGoUpTo9();
        looksAsPaintedOrShade();
        tellsEachWhat();
        netsGoBothWays();
        check.end();
    }

    private static DebtFronts made() {
        DebtFronts x = new DebtFronts();
        Worlds.full(x);
        return x;
    }

    /** Promise 9: "A LOAN of n (1 to 999)". */
    private static void loansAreOf1To999() {
        DebtFronts x = Check.townOf("law 1 0;person 0 0 open;person 999 0 open;person 999 0 open;");
        check.due("1", x.loan(0, 1, 1), 1);
        check.due("999", x.loan(0, 2, 999), 999);
        check.due("a has it", x.person(0, 0), 1000);
        check.due("b had it", x.person(1, 0), 998);
        check.due("he had it, too", x.person(2, 0), 0);
        int[] none = {0, -1, 1000, LEAST, MOST};
        for (int n : none) {
            full.refuses("loan of " + n, Check.BAD, y -> y.loan(0, 1, n));
        }
        // who has 1000 and more lends no more than 999 at once
        check.due("998 more", x.loan(0, 1, 998), 999);
        check.due("he has 1998", x.person(0, 0), 1998);
        check.due("1000 of them", x.loan(1, 0, 1000), Check.BAD);
        check.due("999 of them", x.loan(1, 0, 999), 999);
    }

    /** Promise 9: "BAD: alike, too". */
    private static void loansAreOfUnlikePeople() {
        for (int p = 0; p <= 3; p++) {
            int person = p;
            full.refuses("alike " + p, Check.BAD, y -> y.loan(person, person, 1));
        }
        for (int none : NOBODY) {
            full.refuses("to nobody " + none, Check.BAD, y -> y.loan(none, 1, 1));
            full.refuses("from nobody " + none, Check.BAD, y -> y.loan(1, none, 1));
        }
        check.due("to the last", made().loan(3, 1, 1), 7);
        check.due("from the first", made().loan(3, 0, 1), 1);
        check.due("from the last but one", made().loan(3, 2, 1), 1);
        noTown.refuses("no TOWN", Check.BAD, y -> y.loan(0, 1, 1));
    }

    /** Promise 9: "STATE: b has not so much"; 0 has 45, 3 has nothing. */
    private static void loansAreOfWhatHeHas() {
        full.changes("all that he has", 45, y -> y.loan(3, 0, 45));
        full.refuses("one more", Check.STATE, y -> y.loan(3, 0, 46));
        full.refuses("of nothing", Check.STATE, y -> y.loan(0, 3, 1));
        full.refuses("999 of 45", Check.STATE, y -> y.loan(1, 0, 999));
        DebtFronts x = made();
        check.due("all", x.loan(3, 0, 45), 45);
        check.due("nothing is left", x.person(0, 0), 0);
        check.due("a has it", x.person(3, 0), 45);
        check.due("no more", x.loan(3, 0, 1), Check.STATE);
    }

    /** 0 owes 1 a debt that has grown as high as it can by QUARTERS; 1 has 999. */
    private static void grown(DebtFronts x, int quarters) {
        Check.read(x, "law 20 20;person 0 0 open;person 999 0 open;owes 0 1 999;owes 0 1 999;owes 0 1 999;");
        for (int q = 0; q < quarters; q++) {
            x.quarter(0);
        }
    }

    /** Lends what is to be lent, and gets it back as a loan the other way. */
    private static void growTo(DebtFronts x, int debt) {
        for (int left = debt - x.person(0, 11); left > 0; left = debt - x.person(0, 11)) {
            int n = Math.min(left, 999);
            x.loan(0, 1, n);
            x.loan(1, 0, n);
        }
    }

    /** Promise 9: "FULL: it would be above 99999". */
    private static void loansGoUpTo99999() {
        DebtFronts x = new DebtFronts();
        grown(x, 20);
        growTo(x, 99999 - 999);
        check.due("999 less", x.person(0, 11), 99000);
        check.due("1 has 999", x.person(1, 0), 999);
        check.due("up to 99999", x.loan(0, 1, 999), 99999);
        Twins almost = new Twins(check, y -> {
            grown(y, 20);
            growTo(y, 99998);
        });
        almost.changes("one more is fine", 99999, y -> y.loan(0, 1, 1));
        almost.refuses("two are not", Check.FULL, y -> y.loan(0, 1, 2));
        almost.refuses("nor are 999", Check.FULL, y -> y.loan(0, 1, 999));
        Twins most = new Twins(check, y -> grown(y, 30));
        most.refuses("one", Check.FULL, y -> y.loan(0, 1, 1));
        most.refuses("all that he has", Check.FULL, y -> y.loan(0, 1, 999));
    }

    /** Terms: refusals are "the first of these that fits". */
    private static void loanIsBadAheadOfStateAheadOfFull() {
        full.refuses("alike, has nothing", Check.BAD, y -> y.loan(3, 3, 1));
        full.refuses("1000, has nothing", Check.BAD, y -> y.loan(0, 3, 1000));
        full.refuses("nobody, has nothing", Check.BAD, y -> y.loan(4, 3, 1));
        Twins most = new Twins(check, y -> {
            grown(y, 30);
            y.loan(1, 0, 1);
        });
        most.refuses("BAD ahead of FULL", Check.BAD, y -> y.loan(0, 1, 1000));
        Twins poor = new Twins(check, y -> {
            Check.read(y, "law 20 20;person 0 0 open;person 99 0 open;owes 0 1 999;");
            for (int q = 0; q < 35; q++) {
                y.quarter(0);
            }
        });
        poor.refuses("STATE ahead of FULL", Check.STATE, y -> y.loan(0, 1, 100));
        poor.refuses("FULL", Check.FULL, y -> y.loan(0, 1, 99));
    }

    /** Promise 10: "A PAYMENT of n (1 to 99999)", from below. */
    private static void paymentsAreOf1AndMore() {
        full.changes("1", 292, y -> y.pay(0, 1, 1));
        int[] none = {0, -1, 100000, LEAST, MOST};
        for (int n : none) {
            full.refuses("payment of " + n, Check.BAD, y -> y.pay(0, 1, n));
        }
        full.refuses("99999 is not BAD", Check.STATE, y -> y.pay(0, 1, 99999));
    }

    /** All that is earned comes to 0, who lends and borrows until he owes 99999 and has as much. */
    private static void rich(DebtFronts x) {
        StringBuilder text = new StringBuilder("law 20 20;person 999 99 open;person 999 99 open;");
        text.append("person 0 99 open;".repeat(5));
        for (int p = 2; p <= 6; p++) {
            text.append(("owes " + p + " 0 999;").repeat(4));
        }
        Check.read(x, text.toString());
        for (int q = 0; q < 145; q++) {
            x.quarter(0);
        }
        for (int left = 99999; left > 0; left -= Math.min(left, 999)) {
            int n = Math.min(left, 999);
            if (x.loan(0, 1, n) == Check.STATE) {
                x.loan(1, 0, 999);
                x.loan(0, 1, n);
            }
        }
    }

    /** Promise 10: "(1 to 99999)", from above: the most that one can owe can be paid at once. */
    private static void paysUpTo99999() {
        DebtFronts x = new DebtFronts();
        rich(x);
        check.due("he owes the most", x.person(0, 11), 99999);
        check.isTrue("he has so much", x.person(0, 0) >= 99999);
        int had = x.person(1, 0);
        check.due("one more is BAD", x.pay(0, 1, 100000), Check.BAD);
        check.due("99999", x.pay(0, 1, 99999), 0);
        check.due("1 has it", x.person(1, 0), had + 99999);
    }

    /** Promise 10: "BAD: alike, too". */
    private static void paymentsAreOfUnlikePeople() {
        for (int p = 0; p <= 3; p++) {
            int person = p;
            full.refuses("alike " + p, Check.BAD, y -> y.pay(person, person, 1));
        }
        for (int none : NOBODY) {
            full.refuses("by nobody " + none, Check.BAD, y -> y.pay(none, 1, 1));
            full.refuses("to nobody " + none, Check.BAD, y -> y.pay(0, none, 1));
        }
        noTown.refuses("no TOWN", Check.BAD, y -> y.pay(0, 1, 1));
    }

    /** Promise 10: "STATE: he owes less"; 1 has 536 and owes 0 20. */
    private static void paysNoMoreThanHeOwes() {
        full.changes("all that he owes", 0, y -> y.pay(1, 0, 20));
        full.refuses("one more", Check.STATE, y -> y.pay(1, 0, 21));
        full.refuses("to one whom he owes nothing", Check.STATE, y -> y.pay(1, 2, 1));
        full.refuses("to one who owes him", Check.STATE, y -> y.pay(1, 3, 1));
    }

    /** Promise 10: "or has less"; 0 has 45 and owes 1 293; 3 has nothing and owes 1 6. */
    private static void paysNoMoreThanHeHas() {
        full.changes("all that he has", 248, y -> y.pay(0, 1, 45));
        full.refuses("one more", Check.STATE, y -> y.pay(0, 1, 46));
        full.refuses("of nothing", Check.STATE, y -> y.pay(3, 1, 1));
        full.refuses("more than both", Check.STATE, y -> y.pay(3, 1, 7));
        DebtFronts x = made();
        x.pay(0, 1, 45);
        check.due("nothing is left", x.person(0, 0), 0);
        check.due("b has it", x.person(1, 0), 581);
    }

    private static void payIsBadAheadOfState() {
        full.refuses("alike and STATE", Check.BAD, y -> y.pay(3, 3, 9));
        full.refuses("n 0 and STATE", Check.BAD, y -> y.pay(3, 1, 0));
        full.refuses("n 100000 and STATE", Check.BAD, y -> y.pay(3, 1, 100000));
        full.refuses("nobody and STATE", Check.BAD, y -> y.pay(3, 4, 9));
    }

    /** Promise 11: "A front is PAINTED: how it LOOKED. BAD."; Terms 2: "PAINTED (0 to 9)". */
    private static void paints0To9() {
        DebtFronts x = made();
        check.due("it looked as painted", x.paint(0, 0), 1);
        check.due("0", x.person(0, 4), 0);
        check.due("9", x.paint(0, 9), 0);
        check.due("looks 9", x.person(0, 4), 9);
        check.due("the last one looked as his SHADE", x.paint(3, 5), 0);
        check.due("and looks so", x.person(3, 4), 5);
        int[] none = {-1, 10, LEAST, MOST};
        for (int v : none) {
            full.refuses("paint " + v, Check.BAD, y -> y.paint(0, v));
        }
        for (int nobody : NOBODY) {
            full.refuses("paint of nobody " + nobody, Check.BAD, y -> y.paint(nobody, 0));
        }
        noTown.refuses("no TOWN", Check.BAD, y -> y.paint(0, 0));
    }

    /** Promise 12: "A hedge (1) or none (0): how it was. BAD." */
    private static void hedgesAre0Or1() {
        for (int p = 0; p <= 3; p++) {
            DebtFronts x = made();
            int was = x.person(p, 5);
            check.due("comes", x.hedge(p, 1), was);
            check.due("is there", x.person(p, 5), 1);
            check.due("comes again", x.hedge(p, 1), 1);
            check.due("goes", x.hedge(p, 0), 1);
            check.due("is not there", x.person(p, 5), 0);
            check.due("goes again", x.hedge(p, 0), 0);
            check.due("each is an ACT", x.count(4), 6 + 4);
        }
        int[] none = {-1, 2, LEAST, MOST};
        for (int is : none) {
            full.refuses("hedge " + is, Check.BAD, y -> y.hedge(0, is));
        }
        for (int nobody : NOBODY) {
            full.refuses("hedge of nobody " + nobody, Check.BAD, y -> y.hedge(nobody, 0));
        }
        noTown.refuses("no TOWN", Check.BAD, y -> y.hedge(0, 0));
    }

    /** Terms 2: "each can be undone, the latest first"; promise 14: "how many can be undone yet". */
    private static void undoesTheLatestFirst() {
        Twins.Call[] acts = {y -> y.loan(3, 1, 9), y -> y.pay(0, 1, 9), y -> y.paint(2, 9), y -> y.hedge(3, 1),
            y -> y.quarter(0), y -> y.quarter(999999)};
        for (int k = 0; k < acts.length; k++) {
            Twins.Call act = acts[k];
            full.keeps("act " + k + " and its undoing", 6, y -> {
                act.on(y);
                return y.undo();
            });
        }
        full.keeps("all of them", 6, y -> {
            int left = 0;
            for (Twins.Call act : acts) {
                act.on(y);
            }
            for (int k = 0; k < acts.length; k++) {
                left = y.undo();
            }
            return left;
        });
    }

    /** Promise 14: "STATE: none". */
    private static void undoesNoneWhereNoneIs() {
        noTown.refuses("no TOWN", Check.STATE, DebtFronts::undo);
        Twins fresh = new Twins(check, y -> Check.read(y, Worlds.FOUR));
        fresh.refuses("a TOWN just read", Check.STATE, DebtFronts::undo);
        Twins undone = new Twins(check, y -> {
            Check.read(y, Worlds.FOUR);
            y.paint(0, 3);
            y.undo();
        });
        undone.refuses("the only one is undone", Check.STATE, DebtFronts::undo);
        Twins restored = new Twins(check, y -> {
            Worlds.full(y);
            y.restore(1);
        });
        restored.refuses("restored", Check.STATE, DebtFronts::undo);
        DebtFronts x = made();
        for (int left = 5; left >= 0; left--) {
            check.due("undo", x.undo(), left);
            check.due("count", x.count(4), left);
        }
        check.due("none is left", x.undo(), Check.STATE);
        check.due("as it was read", x.person(0, 11), 350);
        check.due("QUARTER", x.count(3), 0);
    }

    /** Terms 2: "ACTS (24 at most are kept, of more the oldest is forgotten)". */
    private static void keeps24Acts() {
        for (int acts = 23; acts <= 49; acts++) {
            DebtFronts x = Check.townOf("law 1 0;person 0 0 open;person 999 0 open;");
            for (int i = 1; i <= acts; i++) {
                check.due("loan", x.loan(0, 1, 1), i);
                check.due("kept", x.count(4), Math.min(i, 24));
            }
            int kept = Math.min(acts, 24);
            for (int i = 1; i <= kept; i++) {
                check.due("undo", x.undo(), kept - i);
                check.due("as ahead of it", x.person(0, 11), acts - i);
            }
            check.due("the others are forgotten", x.undo(), Check.STATE);
            check.due("what they did stays", x.person(0, 11), acts - kept);
            check.due("and on", x.loan(0, 1, 5), acts - kept + 5);
            check.due("one is kept", x.undo(), 0);
        }
    }

    private static void refusedActsAreNotKept() {
        DebtFronts x = made();
        x.loan(0, 3, 1);
        x.loan(0, 0, 1);
        x.pay(3, 1, 1);
        x.paint(0, 10);
        x.hedge(0, 2);
        x.quarter(-1);
        x.image(0);
        x.ask(0, 0);
        x.run(1, 0);
        x.hiding(0);
        check.due("acts", x.count(4), 6);
        Twins many = new Twins(check, Worlds::manyActs);
        many.refuses("a refused act makes none forgotten", Check.BAD, y -> y.paint(0, 10));
        many.refuses("nor does STATE", Check.STATE, y -> y.loan(0, 3, 1));
    }

    /** Terms 2: "SHADE: that by UNIT, 9 at most", cut towards 0. */
    private static void shadesGoUpTo9() {
        for (int unit = 1; unit <= 20; unit++) {
            for (int shade = 1; shade <= 11; shade++) {
                int owed = shade * unit;
                DebtFronts x = Check.townOf("law " + unit + " 0;person 1 0 open;person 0 0 open;person 1 0 open;"
                        + "owes 0 1 " + owed + ";");
                check.due(owed + " by " + unit, x.person(0, 3), Math.min(shade, 9));
                check.due("one less", x.pay(0, 1, 1), owed - 1);
                check.due("a shade paler by one, of " + owed, x.person(0, 3), Math.min((owed - 1) / unit, 9));
                check.due("one more, from another", x.loan(0, 2, 1), 1);
                check.due("of all that he owes", x.person(0, 3), Math.min(shade, 9));
            }
        }
        check.due("he owes nothing", Check.townOf("law 1 0;person 0 0 open;").person(0, 3), 0);
    }

    /** Terms 2: "His front LOOKS so, or as it is PAINTED". */
    private static void looksAsPaintedOrShade() {
        for (int v = 0; v <= 9; v++) {
            DebtFronts x = Check.townOf("law 10 0;person 0 0 open;person 99 0 open;owes 0 1 40;");
            check.due("looks as his SHADE", x.person(0, 4), 4);
            check.due("paint", x.paint(0, v), 4);
            check.due("looks", x.person(0, 4), v);
            check.due("the SHADE stays", x.person(0, 3), 4);
            x.loan(0, 1, 10);
            check.due("stays PAINTED", x.person(0, 4), v);
            check.due("his SHADE does not", x.person(0, 3), 5);
            check.due("the other is not PAINTED", x.person(1, 4), 0);
            x.undo();
            x.undo();
            check.due("looks as his SHADE again", x.person(0, 4), 4);
            x.loan(0, 1, 10);
            check.due("and goes with it", x.person(0, 4), 5);
        }
    }

    /** Promise 15: "0 CASH .. 7 NET; 10 and on: what he owes another one. BAD." */
    private static void tellsEachWhat() {
        int[] due = {45, 7, 293, 9, 1, 0, 0, -273, Check.BAD, Check.BAD, 0, 293, 0, 0, Check.BAD};
        int[] last = {0, 0, 6, 0, 0, 0, 1, -6, Check.BAD, Check.BAD, 0, 6, 0, 0, Check.BAD};
        for (int what = 0; what < due.length; what++) {
            int asked = what;
            full.keeps("person 0 " + what, due[what], y -> y.person(0, asked));
            full.keeps("person 3 " + what, last[what], y -> y.person(3, asked));
        }
        int[] none = {-1, 17, LEAST, MOST};
        for (int what : none) {
            full.refuses("what " + what, Check.BAD, y -> y.person(0, what));
        }
        for (int nobody : NOBODY) {
            full.refuses("person " + nobody, Check.BAD, y -> y.person(nobody, 0));
            full.refuses("person " + nobody + " and 10", Check.BAD, y -> y.person(nobody, 10));
        }
        noTown.refuses("no TOWN", Check.BAD, y -> y.person(0, 0));
        DebtFronts x = Check.townOf("law 1 0;" + "person 1 0 open;".repeat(7) + "owes 0 6 5;owes 6 5 4;");
        check.due("the last of seven", x.person(0, 16), 5);
        check.due("by the last of seven", x.person(6, 15), 4);
        check.due("no eighth", x.person(6, 17), Check.BAD);
        check.due("alone", Check.townOf("law 1 0;person 1 0 open;").person(0, 11), Check.BAD);
    }

    /** Terms 2: "NET: what others owe one, less what is OWED by him". */
    private static void netsGoBothWays() {
        DebtFronts x = Check.townOf("law 1 0;person 0 0 open;person 0 0 open;person 0 0 open;"
                + "owes 0 1 999;owes 2 0 998;owes 1 2 1;");
        check.due("below 0", x.person(0, 7), -1);
        check.due("above 0", x.person(1, 7), 998);
        check.due("far below 0", x.person(2, 7), -997);
        check.due("OWED is what he owes alone", x.person(0, 2), 999);
    }
}
