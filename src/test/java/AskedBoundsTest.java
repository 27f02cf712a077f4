/** Every sentence about KINDS, ASKS and counts that names a bound: Terms 3 and 4, promises 1 and 25 to 30. */
final class AskedBoundsTest {
    private static final Check check = new Check();
    private static final int MOST = Integer.MAX_VALUE;
    private static final int LEAST = Integer.MIN_VALUE;
    private static final int[] NOBODY = {-1, 4, 7, LEAST, MOST};
    private static final String NOTHING = "person 0 0 open;";
    private static final Twins full = new Twins(check, Worlds::full);
    private static final Twins noTown = new Twins(check, Worlds::withoutTown);
    private static final Twins empty = new Twins(check, x -> { });

    public static void main(String[] args) {
        aNewObjectHasNoTown();
        kindsAreOfPeople();
        redBeginsAtShade7();
        debtorsOweSomething();
        lendersAreFreeAndOwed();
        failedComesFirst();
        asKindsGoFrom0To5();
        asTakesEachKindAsToldOnly();
        asIsBadAheadOfKind();
        asksAre0And1();
        asksBeginInTheirBodies();
        asksAreAskedAnew();
        theTraceIsEmptyAheadOfAnAsk();
        theTraceEnds();
        countsAre0To6();
        countsRows();
        countsPeople();
        countsDebtsAbove0();
        countsQuartersAndActs();
        countsCashOfAll();
        countsBytes();
        statusIsOfAsToo();
        statusIsNotOfOtherCalls();
        serves512Calls();
        check.end();
    }

    /** Promise 1: "No TOWN."; the first of each refusal on a new object. */
    private static void aNewObjectHasNoTown() {
        for (int what = 0; what <= 6; what++) {
            int counted = what;
            empty.keeps("count " + what, 0, y -> y.count(counted));
        }
        empty.keeps("fault", 0, DebtFronts::fault);
        empty.keeps("status", 0, DebtFronts::status);
        empty.keeps("trace", Check.NONE, y -> y.trace(0));
        empty.refuses("set", Check.NULL, y -> y.set(0, 0, 0));
        empty.refuses("copy", Check.NULL, y -> y.copy(0, 0, 1, 0, 0));
        empty.refuses("drop", Check.NULL, y -> y.drop(0));
        empty.refuses("fits", Check.NULL, y -> y.fits(0, 0, 0));
        empty.refuses("loan", Check.BAD, y -> y.loan(0, 1, 1));
        empty.refuses("pay", Check.BAD, y -> y.pay(0, 1, 1));
        empty.refuses("paint", Check.BAD, y -> y.paint(0, 0));
        empty.refuses("hedge", Check.BAD, y -> y.hedge(0, 0));
        empty.refuses("quarter", Check.STATE, y -> y.quarter(0));
        empty.refuses("undo", Check.STATE, DebtFronts::undo);
        empty.refuses("person", Check.BAD, y -> y.person(0, 0));
        empty.refuses("hiding", Check.STATE, y -> y.hiding(0));
        empty.refuses("clear", Check.STATE, y -> y.clear(0));
        empty.refuses("coin", Check.STATE, y -> y.coin(0));
        empty.refuses("run", Check.STATE, y -> y.run(1, 0));
        empty.refuses("cheats", Check.STATE, DebtFronts::cheats);
        empty.refuses("walk", Check.BAD, y -> y.walk(0, 0));
        empty.refuses("image", Check.STATE, y -> y.image(0));
        empty.refuses("restore", Check.STATE, y -> y.restore(0));
        empty.refuses("kind", Check.BAD, y -> y.kind(0));
        empty.refuses("as", Check.BAD, y -> y.as(0, 0));
        empty.refuses("ask", Check.BAD, y -> y.ask(0, 0));
        DebtFronts one = Check.townOf("law 1 0;person 1 1 open;");
        DebtFronts other = new DebtFronts();
        check.due("objects have nothing in common", other.count(1), 0);
        check.due("at all", one.count(1), 1);
    }

    /** Promise 25: "The KIND of a PERSON, as told (1 to 5). BAD." */
    private static void kindsAreOfPeople() {
        int[] kinds = {2, 1, 4, 3};
        for (int p = 0; p <= 3; p++) {
            int person = p;
            full.keeps("kind of " + p, kinds[p], y -> y.kind(person));
        }
        for (int nobody : NOBODY) {
            full.refuses("kind of nobody " + nobody, Check.BAD, y -> y.kind(nobody));
        }
        noTown.refuses("no TOWN", Check.BAD, y -> y.kind(0));
    }

    /** Terms 3: "RED, a DEBTOR: SHADE 7 and more". */
    private static void redBeginsAtShade7() {
        for (int unit = 1; unit <= 20; unit++) {
            String town = "law " + unit + " 0;" + NOTHING.repeat(2) + "owes 0 1 ";
            check.due("SHADE 6", Check.townOf(town + 6 * unit + ";").kind(0), 1);
            check.due("SHADE 7", Check.townOf(town + 7 * unit + ";").kind(0), 2);
            check.due("one less", Check.townOf(town + (7 * unit - 1) + ";").kind(0), 1);
            check.due("SHADE 9", Check.townOf(town + 9 * unit + ";").kind(0), 2);
            check.due("far above", Check.townOf(town + "999;").kind(0), 2);
        }
        DebtFronts x = Check.townOf("law 1 0;" + NOTHING.repeat(2) + "owes 0 1 7;");
        x.paint(0, 0);
        check.due("by SHADE, not by looks", x.kind(0), 2);
        x.paint(1, 9);
        check.due("nor is one RED by paint", x.kind(1), 5);
    }

    /** Terms 3: "DEBTOR, a PERSON: he owes something"; "FREE, a PERSON: he owes nothing". */
    private static void debtorsOweSomething() {
        DebtFronts x = Check.townOf("law 20 0;person 1 0 open;" + NOTHING.repeat(2) + "owes 0 1 1;");
        check.due("1", x.kind(0), 1);
        check.due("nothing, and nobody owes him", x.kind(2), 4);
        x.pay(0, 1, 1);
        check.due("nothing", x.kind(0), 4);
        check.due("nor does anybody owe the other", x.kind(1), 4);
        x.undo();
        check.due("1 again", x.kind(0), 1);
        x = Check.townOf("law 20 0;" + NOTHING.repeat(7) + "owes 6 5 1;");
        check.due("the last", x.kind(6), 1);
        check.due("the last but one", x.kind(5), 5);
    }

    /** Terms 3: "LENDER, a FREE one: others owe him". */
    private static void lendersAreFreeAndOwed() {
        DebtFronts x = Check.townOf("law 20 0;" + NOTHING.repeat(2) + "person 1 0 open;owes 1 0 1;");
        check.due("others owe him 1", x.kind(0), 5);
        check.due("who owes is no LENDER", x.kind(1), 1);
        x.loan(0, 2, 1);
        check.due("who owes and is owed is a DEBTOR", x.kind(0), 1);
        x = Check.townOf("law 20 0;" + NOTHING.repeat(7) + "owes 0 6 1;");
        check.due("the last", x.kind(6), 5);
    }

    /** Terms 3: "FAILED, a RED one: one who has FAILED, whatever his SHADE"; "told as FAILED .. the first that fits". */
    private static void failedComesFirst() {
        int[] owed = {1, 6, 7, 9, 999};
        for (int sum : owed) {
            DebtFronts x = Check.townOf("law 1 0;" + NOTHING.repeat(2) + "owes 0 1 " + sum + ";");
            x.quarter(0);
            check.due("FAILED, owes " + sum, x.kind(0), 3);
            x.undo();
            check.due("undone, owes " + sum, x.kind(0), sum >= 7 ? 2 : 1);
        }
        DebtFronts x = Check.townOf("law 20 0;" + NOTHING.repeat(2) + "person 0 3 open;owes 0 1 3;owes 2 0 3;");
        x.quarter(0);
        x.pay(0, 1, 3);
        check.due("FAILED, owes nothing yet", x.kind(0), 3);
        x.quarter(0);
        check.due("behind the next QUARTER", x.kind(0), 4);
    }

    /** Promise 26: "one of a KIND (0 .. 5): his number. BAD; KIND: he is no such one". */
    private static void asKindsGoFrom0To5() {
        int[] none = {-1, 6, LEAST, MOST};
        for (int kind : none) {
            full.refuses("as " + kind, Check.BAD, y -> y.as(0, kind));
        }
        for (int nobody : NOBODY) {
            full.refuses("nobody " + nobody, Check.BAD, y -> y.as(nobody, 0));
        }
        noTown.refuses("no TOWN", Check.BAD, y -> y.as(0, 0));
        for (int p = 0; p <= 3; p++) {
            int person = p;
            full.keepsAllButStatus("each is a PERSON", p, y -> y.as(person, 0));
        }
    }

    private static void asTakesEachKindAsToldOnly() {
        // for each KIND those that it is, too
        boolean[][] is = {{true, true, false, false, false, false}, {true, true, true, false, false, false},
            {true, true, true, true, false, false}, {true, false, false, false, true, false},
            {true, false, false, false, true, true}};
        DebtFronts x = Check.townOf("law 10 0;person 1 0 open;person 1 0 open;" + NOTHING.repeat(3)
                + "owes 0 4 70;owes 1 4 71;owes 2 4 1;");
        x.quarter(0);
        int[] kinds = {1, 2, 3, 4, 5};
        for (int p = 0; p < 5; p++) {
            check.due("kind", x.kind(p), kinds[p]);
            for (int kind = 0; kind <= 5; kind++) {
                check.due("as " + p + " " + kind, x.as(p, kind), is[p][kind] ? p : Check.KIND);
                check.due("status", x.status(), is[p][kind] ? 0 : 3);
            }
        }
        full.refuses("a RED one as FAILED", Check.KIND, y -> y.as(0, 3));
        full.refuses("a DEBTOR as RED", Check.KIND, y -> y.as(1, 2));
        full.refuses("a FREE one as LENDER", Check.KIND, y -> y.as(2, 5));
        full.refuses("a FREE one as DEBTOR", Check.KIND, y -> y.as(2, 1));
        full.refuses("a FAILED one as FREE", Check.KIND, y -> y.as(3, 4));
        full.keepsAllButStatus("a FAILED one as RED, whatever his SHADE", 3, y -> y.as(3, 2));
    }

    private static void asIsBadAheadOfKind() {
        full.refuses("nobody and no KIND", Check.BAD, y -> y.as(4, 6));
        full.refuses("no KIND below", Check.BAD, y -> y.as(2, -1));
        full.refuses("nobody as FAILED", Check.BAD, y -> y.as(-1, 3));
    }

    /** Promise 27: "An ASK (0, 1) of a PERSON. BAD." A refused one leaves THE TRACE. */
    private static void asksAre0And1() {
        int[] none = {-1, 2, LEAST, MOST};
        for (int what : none) {
            full.refuses("ask " + what, Check.BAD, y -> y.ask(0, what));
        }
        for (int nobody : NOBODY) {
            full.refuses("ask of nobody " + nobody, Check.BAD, y -> y.ask(nobody, 0));
            full.refuses("ask of nobody " + nobody + ", 1", Check.BAD, y -> y.ask(nobody, 1));
        }
        noTown.refuses("no TOWN", Check.BAD, y -> y.ask(0, 0));
        full.keeps("the same ask again", 45 + 293 - 1000, y -> y.ask(0, 0));
    }

    private static void asked(DebtFronts x, int p, int what, int due, int... trace) {
        check.due("ask " + p + " " + what, x.ask(p, what), due);
        for (int i = 0; i < 20; i++) {
            check.due("ask " + p + " " + what + ", trace " + i, x.trace(i), i < trace.length ? trace[i] : Check.NONE);
        }
    }

    /** Terms 4: "Of an ask the BODY told for the KIND begins, else that of the nearest KIND that it is, too". */
    private static void asksBeginInTheirBodies() {
        DebtFronts x = Check.townOf("law 10 0;person 1 0 open;person 1 0 open;" + NOTHING + "person 7 0 open;" + NOTHING
                + "owes 0 4 70;owes 1 4 71;owes 2 4 1;");
        x.quarter(0);
        // 0 DEBTOR owes 69, 1 RED owes 70, 2 FAILED owes 1, 3 FREE has 7, 4 LENDER has 2
        asked(x, 0, 0, 0 + 0 + 69, 11, 10, 21, 20);
        asked(x, 0, 1, 69, 21, 20);
        asked(x, 1, 0, 0 + 1 + 70 - 1000, 11, 10, 22, 21, 20);
        asked(x, 1, 1, 1 + 70 - 1000, 22, 21, 20);
        asked(x, 2, 0, -(2 * (2 + 1 - 1000)), 12, 11, 10, 24, 22, 21, 20);
        asked(x, 2, 1, 2 * (2 + 1 - 1000), 24, 22, 21, 20);
        asked(x, 3, 0, 7 - 100, 13, 10);
        asked(x, 3, 1, 3 - (7 - 100), 23, 20, 13, 10);
        asked(x, 4, 0, 2 * (2 - 100), 14, 13, 10);
        asked(x, 4, 1, 4 - 2 * (2 - 100), 23, 20, 14, 13, 10);
    }

    /** Terms 4: "SIZE, MARK within others are asked of the same PERSON anew", by his KIND. */
    private static void asksAreAskedAnew() {
        DebtFronts x = Check.townOf("law 10 0;" + NOTHING.repeat(2) + "person 100 0 open;owes 0 1 70;owes 1 2 69;");
        asked(x, 0, 0, 0 + 70 - 1000, 11, 10, 22, 21, 20);
        asked(x, 1, 0, 1 + 69, 11, 10, 21, 20);
        asked(x, 2, 1, 2, 23, 20, 14, 13, 10);
        x.loan(0, 2, 1);
        asked(x, 2, 0, -2, 14, 13, 10);
        asked(x, 0, 1, 71 - 1000, 22, 21, 20);
    }

    /** Promise 27: "THE TRACE is empty ahead of it." */
    private static void theTraceIsEmptyAheadOfAnAsk() {
        DebtFronts x = new DebtFronts();
        Worlds.full(x);
        for (int i = 0; i < 30; i++) {
            x.ask(3, 0);
            check.due("seven numbers", x.trace(6), 20);
            check.due("no more", x.trace(7), Check.NONE);
        }
        asked(x, 2, 0, 22 - 100, 13, 10);
    }

    /** Promise 28: "Number i of THE TRACE; NONE."; Terms 4: "(the first 16)". */
    private static void theTraceEnds() {
        int[] due = {11, 10, 22, 21, 20};
        for (int i = 0; i <= 17; i++) {
            int place = i;
            full.keeps("trace " + i, i < 5 ? due[i] : Check.NONE, y -> y.trace(place));
        }
        int[] none = {-1, 15, 16, LEAST, MOST};
        for (int i : none) {
            full.keeps("trace " + i, Check.NONE, y -> y.trace(i));
            noTown.keeps("no ask, trace " + i, Check.NONE, y -> y.trace(i));
        }
        noTown.keeps("no ask", Check.NONE, y -> y.trace(0));
        DebtFronts x = new DebtFronts();
        Worlds.full(x);
        x.quarter(0);
        x.undo();
        x.restore(1);
        x.town();
        check.due("it stays until the next ask", x.trace(0), 11);
    }

    /** Promise 29: "How many: 0 ROWS .. 6 bytes on the tape. BAD." */
    private static void countsAre0To6() {
        int[] due = {6, 4, 3, 1, 6, 603, 24};
        for (int what = 0; what <= 6; what++) {
            int counted = what;
            full.keeps("count " + what, due[what], y -> y.count(counted));
        }
        int[] none = {-1, 7, LEAST, MOST};
        for (int what : none) {
            full.refuses("count " + what, Check.BAD, y -> y.count(what));
            noTown.refuses("no TOWN, count " + what, Check.BAD, y -> y.count(what));
        }
    }

    private static void countsRows() {
        DebtFronts x = new DebtFronts();
        for (int row = 0; row <= 7; row++) {
            x.row(row, 0, 0);
            check.due("rows", x.count(0), row + 1);
        }
        x.row(7, 1, 40);
        check.due("eight", x.count(0), 8);
        for (int row = 7; row >= 0; row--) {
            x.drop(row);
            check.due("rows", x.count(0), row);
        }
    }

    private static void countsPeople() {
        DebtFronts x = new DebtFronts();
        for (int people = 7; people >= 1; people--) {
            Check.read(x, "law 1 0;" + NOTHING.repeat(people));
            check.due("people", x.count(1), people);
        }
    }

    /** Promise 29: "2 debts above 0": 42 are the most that there can be. */
    private static void countsDebtsAbove0() {
        DebtFronts x = Check.townOf("law 1 0;" + "person 100 0 open;".repeat(7));
        int debts = 0;
        for (int a = 0; a < 7; a++) {
            for (int b = 0; b < 7; b++) {
                if (a != b) {
                    check.due("loan", x.loan(a, b, 1), 1);
                    debts++;
                    check.due("debts", x.count(2), debts);
                }
            }
        }
        check.due("42", x.count(2), 42);
        x.loan(0, 1, 1);
        check.due("more of one is no other", x.count(2), 42);
        x.pay(0, 1, 1);
        check.due("1 is above 0", x.count(2), 42);
        x.pay(0, 1, 1);
        check.due("0 is not", x.count(2), 41);
        x.quarter(0);
        check.due("all are paid", x.count(2), 0);
    }

    private static void countsQuartersAndActs() {
        DebtFronts x = Check.townOf("law 1 0;" + NOTHING);
        for (int q = 1; q <= 30; q++) {
            x.quarter(0);
            check.due("QUARTERS", x.count(3), q);
            check.due("ACTS", x.count(4), Math.min(q, 24));
        }
        for (int q = 29; q >= 6; q--) {
            x.undo();
            check.due("QUARTERS", x.count(3), q);
            check.due("ACTS", x.count(4), q - 6);
        }
        x.undo();
        check.due("6 stay", x.count(3), 6);
    }

    private static void countsCashOfAll() {
        DebtFronts x = Check.townOf("law 1 0;" + "person 999 99 open;".repeat(7) + "owes 0 6 999;");
        check.due("the most at first", x.count(5), 7 * 999);
        x.loan(3, 2, 999);
        check.due("a loan leaves it", x.count(5), 7 * 999);
        x.quarter(0);
        check.due("incomes", x.count(5), 7 * 1098);
        check.due("none", Check.townOf("law 1 0;" + NOTHING.repeat(7)).count(5), 0);
    }

    private static void countsBytes() {
        DebtFronts x = new DebtFronts();
        for (int bytes = 1; bytes <= 400; bytes++) {
            x.feed(32, 1);
            if (bytes % 57 == 0 || bytes >= 399) {
                check.due("bytes", x.count(6), bytes);
            }
        }
        x.feed(32, 1);
        check.due("400 yet", x.count(6), 400);
        x.town();
        check.due("none", x.count(6), 0);
    }

    /** Promise 30: "or as(), that was not BAD, STATE, FULL: the number of its FINDING; 0: it had none". */
    private static void statusIsOfAsToo() {
        DebtFronts x = new DebtFronts();
        Worlds.full(x);
        check.due("a PLACE ahead", x.status(), 2);
        x.as(0, 2);
        check.due("none", x.status(), 0);
        x.as(0, 4);
        check.due("KIND", x.status(), 3);
        x.as(0, 6);
        x.as(4, 0);
        x.as(-1, 0);
        check.due("BAD ones leave it", x.status(), 3);
        check.due("asked again", x.status(), 3);
        x.row(0, 0, 0);
        check.due("a call with a ROW behind it", x.status(), 0);
        x.as(0, 5);
        x.drop(7);
        check.due("NULL behind KIND", x.status(), 1);
        x.as(0, 0);
        check.due("none behind NULL", x.status(), 0);
    }

    /** Promise 30: other calls leave it, whatever they answer. */
    private static void statusIsNotOfOtherCalls() {
        for (int finding = 0; finding <= 5; finding++) {
            DebtFronts x = new DebtFronts();
            Worlds.full(x);
            switch (finding) {
                case 1 -> x.drop(7);
                case 2 -> x.set(0, -1, 0);
                case 3 -> x.as(0, 3);
                case 4 -> x.row(0, 0, -1);
                case 5 -> x.copy(0, 0, 1, 0, 0);
                default -> x.as(0, 0);
            }
            check.due("status", x.status(), finding);
            others(x);
            check.due("it stays", x.status(), finding);
        }
    }

    private static void others(DebtFronts x) {
        x.feed(32, 1);
        x.feed(32, 0);
        x.fault();
        x.loan(3, 1, 1);
        x.loan(3, 3, 1);
        x.loan(0, 3, 999);
        x.pay(0, 1, 1);
        x.pay(3, 1, 99);
        x.paint(0, 0);
        x.paint(9, 0);
        x.hedge(0, 0);
        x.hedge(0, 3);
        x.quarter(0);
        x.quarter(-1);
        x.undo();
        x.person(0, 0);
        x.person(0, 8);
        x.hiding(0);
        x.clear(0);
        x.coin(7);
        x.run(1, 0);
        x.cheats();
        x.walk(0, 3);
        x.image(0);
        x.restore(0);
        x.kind(0);
        x.ask(0, 0);
        x.trace(0);
        x.count(0);
        x.town();
        x.town();
        x.undo();
    }

    /** "An object is used for at most 512 calls": up to there every answer is as due. */
    private static void serves512Calls() {
        DebtFronts x = new DebtFronts();
        Check.feed(x, "law 1 0;person 0 1 open;");
        x.town();
        for (int call = 5; call <= 511; call++) {
            check.due("call " + call, x.quarter(0), call - 4);
        }
        check.due("call 512", x.person(0, 0), 507);
    }
}
