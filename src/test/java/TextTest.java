/** Promises 6 to 8: feed, town, fault. */
final class TextTest {
    private static final Check check = new Check();
    private static final String LAW = "law 10 5;";
    private static final String ONE = "person 1 2 open;";

    public static void main(String[] args) {
        feeds();
        readsTowns();
        tellsFaults();
        tellsLimits();
        keepsAllOnFault();
        check.end();
    }

    private static void feeds() {
        DebtFronts x = new DebtFronts();
        check.due("n 0", x.feed(0, 0), Check.BAD);
        check.due("n 9", x.feed(0, 9), Check.BAD);
        check.due("n below", x.feed(0, -1), Check.BAD);
        check.due("high bytes are left out", x.feed(0x7071726C6177L, 3), 3);
        Check.feed(x, " 1 0;" + ONE);
        check.due("town", x.town(), 1);
        check.due("the tape is empty then", x.count(6), 0);
        for (int i = 1; i <= 50; i++) {
            check.due("feed 8", x.feed(0x2020202020202020L, 8), 8 * i);
        }
        check.due("full", x.feed(32, 1), Check.FULL);
        check.due("count", x.count(6), 400);
        check.due("BAD ahead of FULL", x.feed(32, 9), Check.BAD);
        check.due("blanks alone", x.town(), -1000500);
        check.due("fault", x.fault(), 1);
        for (int i = 0; i < 49; i++) {
            x.feed(-1L, 8);
        }
        check.due("399", x.feed(0, 7), 399);
        check.due("none comes", x.feed(0, 2), Check.FULL);
        check.due("one does", x.feed(0, 1), 400);
        check.due("bytes above 127 are no token", x.town(), -1000100);
    }

    private static void readsTowns() {
        DebtFronts x = new DebtFronts();
        check.due("fault at first", x.fault(), 0);
        check.due("town", Check.read(x, "\n law 20 020 ;\nperson 999 99 hedge;person 000 0open;"
                + "owes 0 1 999;owes 0 1 1;owes 1 0 7; \n"), 2);
        check.due("no fault yet", x.fault(), 0);
        check.due("CASH", x.person(0, 0), 999);
        check.due("INCOME", x.person(0, 1), 99);
        check.due("hedge", x.person(0, 5), 1);
        check.due("open", x.person(1, 5), 0);
        check.due("debts add up", x.person(0, 11), 1000);
        check.due("the other way", x.person(1, 10), 7);
        DebtFronts y = Check.townOf("law 20 0;person 0 0 open;person 0 0 open;owes 0 1 59;");
        check.due("SHADE by UNIT 20", y.person(0, 3), 2);
        check.due("no blanks but where needed", Check.read(x, "law10 5;person1 2open;"), 1);
    }

    private static void faultAt(String text, int place, int number) {
        DebtFronts x = new DebtFronts();
        check.due(text, Check.read(x, text), -1000100 - place);
        check.due("fault of " + text, x.fault(), number);
        check.due("no town of " + text, x.count(1), 0);
        check.due("tape of " + text, x.count(6), 0);
    }

    private static void tellsFaults() {
        faultAt("", 0, 1);
        faultAt("  ", 2, 1);
        faultAt("law ", 4, 1);
        faultAt("lawx 1 0;", 0, 1);
        faultAt("la", 0, 1);
        faultAt("Law 1 0;", 0, 1);
        faultAt("law\t1 0;", 3, 1);
        faultAt("law 1,0;", 5, 1);
        faultAt("law x 0;", 4, 1);
        faultAt("law ;", 4, 1);
        faultAt("law 1;", 5, 1);
        faultAt("law 1 0 0;", 8, 1);
        faultAt("law 0001 0;", 4, 1);
        faultAt("law 21 0000;", 4, 2);
        faultAt("law -1 0;", 4, 1);
        faultAt(LAW, 9, 1);
        faultAt(LAW + "owes 0 1 1;", 9, 1);
        faultAt(LAW + "law 1 0;", 9, 1);
        faultAt(LAW + ONE + ";", 25, 1);
        faultAt(LAW + ONE + "law", 25, 1);
        faultAt(LAW + ONE + "5", 25, 1);
        faultAt(LAW + "person 0 0 hedgeopen;", 20, 1);
        faultAt(LAW + "person 0 0 0;", 20, 1);
        faultAt(LAW + "person 1000 0 open;", 16, 1);
        faultAt(LAW + "person 0 0 open person", 25, 1);
        faultAt(LAW + ONE + ONE + "owes 0 1 1;" + ONE, 52, 1);
        faultAt(LAW + ONE + ONE + "owes 0 1;", 49, 1);
        faultAt(LAW + ONE + ONE + "owes 0 1 1", 51, 1);
        faultAt(LAW + ONE + ONE + "owes a 1 1;", 46, 1);
    }

    private static void tellsLimits() {
        faultAt("law 0 0;", 4, 2);
        faultAt("law 21 0;", 4, 2);
        faultAt("law 1 21;", 6, 2);
        faultAt(LAW + "person 0 100 open;", 18, 2);
        faultAt(LAW + ONE + ONE + "owes 2 0 1;", 46, 2);
        faultAt(LAW + ONE + ONE + "owes 0 2 1;", 48, 2);
        faultAt(LAW + ONE + ONE + "owes 1 1 1;", 48, 2);
        faultAt(LAW + ONE + ONE + "owes 1 0 0;", 50, 2);
        faultAt(LAW + ONE.repeat(8), 9 + 7 * 16, 3);
        faultAt(LAW + ONE.repeat(7) + "person", 9 + 7 * 16, 3);
        faultAt(LAW + ONE + ONE + "owes 0 1 1;".repeat(21), 41 + 220, 3);
        DebtFronts x = new DebtFronts();
        check.due("7 people", Check.read(x, LAW + ONE.repeat(7)), 7);
        check.due("20 debts", Check.read(x, LAW + ONE + ONE + "owes 0 1 999;".repeat(20)), 2);
        check.due("all of them", x.person(0, 11), 19980);
    }

    private static void keepsAllOnFault() {
        DebtFronts x = Check.townOf(LAW + "person 50 2 open;person 3 4 hedge;owes 0 1 5;");
        x.pay(0, 1, 2);
        x.paint(1, 4);
        check.due("fault", Check.read(x, LAW + ONE + "owes 0 0 1;"), -1000100 - 32);
        check.due("people", x.count(1), 2);
        check.due("acts", x.count(4), 2);
        check.due("looks", x.person(1, 4), 4);
        check.due("undo", x.undo(), 1);
        x.quarter(0);
        check.due("a new town", Check.read(x, LAW + ONE), 1);
        check.due("no acts", x.count(4), 0);
        check.due("undo", x.undo(), Check.STATE);
        check.due("QUARTER 0", x.count(3), 0);
        check.due("nobody more", x.person(1, 0), Check.BAD);
        check.due("no debts", x.count(2), 0);
        check.due("the latest fault stays", x.fault(), 2);
    }
}
