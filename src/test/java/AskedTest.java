/** Promises 1 and 25 to 30: a new object, kind, as, ask, trace, count, status. */
final class AskedTest {
    private static final Check check = new Check();
    private static final int[][] IS = {{0}, {0, 1}, {0, 1, 2}, {0, 1, 2, 3}, {0, 4}, {0, 4, 5}};

    public static void main(String[] args) {
        beginsWithNothing();
        tellsKinds();
        asksEachKind();
        tellsFailedOnesWithoutDebt();
        refuses();
        counts();
        check.end();
    }

    private static void beginsWithNothing() {
        DebtFronts x = new DebtFronts();
        for (int what = 0; what <= 6; what++) {
            check.due("count " + what, x.count(what), 0);
        }
        check.due("fault", x.fault(), 0);
        check.due("status", x.status(), 0);
        check.due("trace", x.trace(0), Check.NONE);
        check.due("undo", x.undo(), Check.STATE);
        check.due("image", x.image(0), Check.STATE);
        for (int row = 0; row < 8; row++) {
            check.due("row " + row, x.drop(row), Check.NULL);
        }
    }

    /** UNIT 10: 0 DEBTOR (69), 1 RED (70), 2 LENDER, 3 FREE, 4 fails in the quarter and owes 5. */
    private static DebtFronts town() {
        return Check.townOf("law 10 0;person 1 0 open;person 2 0 open;person 30 0 open;person 400 0 open;"
                + "person 0 0 open;owes 0 2 70;owes 1 2 72;owes 4 1 5;");
    }

    private static void tellsKinds() {
        DebtFronts x = town();
        x.quarter(0);
        int[] kinds = {1, 2, 5, 4, 3};
        for (int p = 0; p < 5; p++) {
            check.due("kind " + p, x.kind(p), kinds[p]);
            for (int k = 0; k < 6; k++) {
                final int kind = k;
                boolean is = java.util.Arrays.stream(IS[kinds[p]]).anyMatch(own -> own == kind);
                check.due("as " + p + " " + k, x.as(p, k), is ? p : Check.KIND);
                check.due("status " + p + " " + k, x.status(), is ? 0 : 3);
            }
        }
    }

    private static void asked(DebtFronts x, int p, int what, int answer, int... trace) {
        String call = "ask " + p + " " + what;
        check.due(call, x.ask(p, what), answer);
        for (int i = 0; i < trace.length; i++) {
            check.due(call + " trace " + i, x.trace(i), trace[i]);
        }
        check.due(call + " trace end", x.trace(trace.length), Check.NONE);
        check.due(call + " trace -1", x.trace(-1), Check.NONE);
        check.due(call + " trace far", x.trace(Integer.MAX_VALUE), Check.NONE);
    }

    private static void asksEachKind() {
        DebtFronts x = town();
        x.quarter(0);
        x.loan(1, 3, 9);
        x.pay(1, 2, 4);
        // 0: CASH 0, OWED 69. 1: CASH 5, OWED 75. 2: CASH 37. 3: CASH 391, a LENDER now. 4: OWED 5
        asked(x, 0, 0, 69, 11, 10, 21, 20);
        asked(x, 0, 1, 69, 21, 20);
        asked(x, 1, 0, 5 + 1 + 75 - 1000, 11, 10, 22, 21, 20);
        asked(x, 1, 1, 1 + 75 - 1000, 22, 21, 20);
        asked(x, 2, 0, 2 * (37 - 100), 14, 13, 10);
        asked(x, 2, 1, 2 - 2 * (37 - 100), 23, 20, 14, 13, 10);
        asked(x, 4, 0, -2 * (4 + 5 - 1000), 12, 11, 10, 24, 22, 21, 20);
        asked(x, 4, 1, 2 * (4 + 5 - 1000), 24, 22, 21, 20);
        x.pay(1, 3, 5);
        x.undo();
        x.undo();
        x.undo();
        asked(x, 3, 0, 300, 13, 10);
        asked(x, 3, 1, 3 - 300, 23, 20, 13, 10);
    }

    private static void tellsFailedOnesWithoutDebt() {
        DebtFronts x = town();
        x.quarter(0);
        x.loan(4, 3, 9);
        x.pay(4, 1, 5);
        x.loan(3, 2, 9);
        x.loan(4, 3, 5);
        x.pay(4, 3, 9);
        check.due("owes 5 yet", x.person(4, 2), 5);
        x = Check.townOf("law 10 0;person 0 0 open;person 9 0 open;owes 0 1 9;owes 1 0 8;");
        x.quarter(0);
        check.due("0 FAILED", x.person(0, 6), 1);
        check.due("0 can pay now", x.pay(0, 1, 8), 1);
        x.loan(1, 0, 0);
        x.loan(0, 1, 5);
        check.due("5 more", x.pay(0, 1, 5), 1);
        for (int q = 2; q <= 8; q++) {
            x.quarter(0);
        }
        check.due("FAILED yet", x.kind(0), 3);
        x.quarter(0);
        check.due("forgiven", x.person(0, 2), 0);
        check.due("told as FAILED", x.kind(0), 3);
        check.due("as FREE", x.as(0, 4), Check.KIND);
        check.due("as DEBTOR", x.as(0, 1), 0);
        asked(x, 0, 1, -2000, 24, 22, 21, 20);
    }

    private static void refuses() {
        DebtFronts x = town();
        check.due("kind of nobody", x.kind(5), Check.BAD);
        check.due("kind below", x.kind(-1), Check.BAD);
        check.due("as of nobody", x.as(5, 0), Check.BAD);
        check.due("as kind below", x.as(0, -1), Check.BAD);
        check.due("as kind above", x.as(0, 6), Check.BAD);
        check.due("ask", x.ask(0, 1), -930);
        check.due("ask of nobody", x.ask(5, 0), Check.BAD);
        check.due("ask what below", x.ask(0, -1), Check.BAD);
        check.due("ask what above", x.ask(0, 2), Check.BAD);
        check.due("a refused ask leaves THE TRACE", x.trace(0), 22);
        check.due("to its end", x.trace(3), Check.NONE);
    }

    private static void counts() {
        DebtFronts x = town();
        x.row(2, 0, 3);
        x.row(3, 0, 0);
        x.feed(65, 1);
        x.quarter(0);
        x.paint(0, 0);
        check.due("ROWS", x.count(0), 2);
        check.due("PEOPLE", x.count(1), 5);
        check.due("debts", x.count(2), 3);
        check.due("QUARTERS", x.count(3), 1);
        check.due("ACTS", x.count(4), 2);
        check.due("CASH", x.count(5), 433);
        check.due("bytes", x.count(6), 1);
        check.due("below", x.count(-1), Check.BAD);
        check.due("above", x.count(7), Check.BAD);
    }
}
