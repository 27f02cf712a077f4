/** Every sentence about the tape and TEXTS that names a bound: Terms 1, promises 6 to 8. */
final class TextBoundsTest {
    private static final Check check = new Check();
    private static final int MOST = Integer.MAX_VALUE;
    private static final int LEAST = Integer.MIN_VALUE;
    private static final String LAW = "law 10 5;";
    private static final String ONE = "person 1 2 open;";
    private static final String DEBT = "owes 0 1 1;";
    private static final String TWO = LAW + ONE + ONE;
    private static final String SEVEN = LAW + ONE.repeat(7);

    public static void main(String[] args) {
        feedsOneToEightBytes();
        feedsTheHighestFirst();
        feedsUpTo400();
        feedsNoneWhereNotAllFit();
        feedIsBadAheadOfFull();
        theTapeIsEmptyBehindTown();
        readsAnEmptyTape();
        readsATapeOf400();
        tellsTheLastPlaces();
        namesAreOfLettersAlone();
        numbersHaveThreeFiguresAtMost();
        onlyTwoBytesStandBetween();
        otherBytesAreNoTokens();
        unitsGoFrom1To20();
        ratesGoFrom0To20();
        cashGoesUpTo999();
        incomesGoUpTo99();
        frontsAreOpenOrHedge();
        peopleAreOneToSeven();
        debtsAreOfPeopleTold();
        debtsAreOfUnlikePeople();
        sumsGoFrom1To999();
        debtsAreTwentyAtMost();
        partsStandInTheirOrder();
        theFirstTokenWithAFaultCounts();
        ofOneTokenTheLeastCounts();
        tellsTheLatestFault();
        allStaysOnAFault();
        aTownStandsInPlaceOfTheOneBefore();
        aTownBeginsAnew();
        check.end();
    }

    private static void isRead(String text, int people) {
        DebtFronts x = new DebtFronts();
        check.due(text, Check.read(x, text), people);
        check.due("no fault of " + text, x.fault(), 0);
        check.due("people of " + text, x.count(1), people);
        check.due("the tape behind " + text, x.count(6), 0);
    }

    private static void hasFault(String text, int place, int number) {
        DebtFronts x = new DebtFronts();
        check.due(text, Check.read(x, text), -1000100 - place);
        check.due("fault of " + text, x.fault(), number);
        check.due("no town by " + text, x.count(1), 0);
        check.due("the tape behind " + text, x.count(6), 0);
    }

    /** Promise 6: "The lowest n bytes of w (1 to 8) .. BAD: n". */
    private static void feedsOneToEightBytes() {
        DebtFronts x = new DebtFronts();
        int fed = 0;
        for (int n = 1; n <= 8; n++) {
            fed += n;
            check.due("feed " + n, x.feed(-1L, n), fed);
            check.due("count", x.count(6), fed);
        }
        Twins full = new Twins(check, Worlds::full);
        int[] none = {0, -1, 9, LEAST, MOST};
        for (int n : none) {
            full.refuses("feed " + n, Check.BAD, y -> y.feed(32, n));
        }
    }

    /** Promise 6: "the highest of them first"; what is above the lowest n does not come. */
    private static void feedsTheHighestFirst() {
        String text = "law 1 0;" + "person 5 6 open;";
        for (int n = 1; n <= 8; n++) {
            DebtFronts x = new DebtFronts();
            for (int i = 0; i < text.length(); i += n) {
                int bytes = Math.min(n, text.length() - i);
                long w = bytes == 8 ? 0 : -1;
                for (int k = 0; k < bytes; k++) {
                    w = w << 8 | text.charAt(i + k);
                }
                check.due("feed " + n, x.feed(w, bytes), Math.min(i + n, text.length()));
            }
            check.due("read by " + n, x.town(), 1);
            check.due("cash by " + n, x.person(0, 0), 5);
        }
    }

    private static void fed(DebtFronts x, int bytes) {
        for (int i = 0; i < bytes / 8; i++) {
            x.feed(0x2020202020202020L, 8);
        }
        if (bytes % 8 != 0) {
            x.feed(0x2020202020202020L, bytes % 8);
        }
    }

    /** Terms 1: "THE TAPE has at most 400 bytes". */
    private static void feedsUpTo400() {
        for (int n = 1; n <= 8; n++) {
            DebtFronts x = new DebtFronts();
            fed(x, 400 - n);
            check.due("ahead", x.count(6), 400 - n);
            check.due("the last " + n, x.feed(0, n), 400);
            check.due("one more", x.feed(0, 1), Check.FULL);
            check.due("count", x.count(6), 400);
        }
    }

    /** Promise 6: "FULL: none comes". */
    private static void feedsNoneWhereNotAllFit() {
        for (int n = 1; n <= 8; n++) {
            int bytes = n;
            Twins almost = new Twins(check, x -> fed(x, 401 - bytes));
            almost.refuses(n + " where one less fits", Check.FULL, y -> y.feed(0x3B3B3B3B3B3B3B3BL, bytes));
            if (n > 1) {
                almost.changes("one less", 400, y -> y.feed(0x3B3B3B3B3B3B3B3BL, bytes - 1));
            }
        }
    }

    /** Terms: refusals are "the first of these that fits". */
    private static void feedIsBadAheadOfFull() {
        Twins full = new Twins(check, x -> fed(x, 400));
        full.refuses("9", Check.BAD, y -> y.feed(0, 9));
        full.refuses("0", Check.BAD, y -> y.feed(0, 0));
        full.refuses("-1", Check.BAD, y -> y.feed(0, -1));
        full.refuses("the most", Check.BAD, y -> y.feed(0, MOST));
        full.refuses("8", Check.FULL, y -> y.feed(0, 8));
    }

    /** Promise 7: "The tape, empty then, is read". */
    private static void theTapeIsEmptyBehindTown() {
        DebtFronts x = new DebtFronts();
        check.due("a town", Check.read(x, LAW + ONE), 1);
        check.due("empty", x.count(6), 0);
        check.due("the first byte comes first", x.feed('l', 1), 1);
        check.due("a fault", x.town(), -1000100);
        check.due("empty, too", x.count(6), 0);
        fed(x, 400);
        check.due("at 400", x.town(), -1000500);
        check.due("there is room again", x.feed(0, 8), 8);
    }

    /** Terms 1: "(the end: how many bytes there are)". */
    private static void readsAnEmptyTape() {
        hasFault("", 0, 1);
        hasFault(" ", 1, 1);
        hasFault("\n\n ", 3, 1);
        hasFault("law", 3, 1);
        hasFault("law ", 4, 1);
        hasFault("law 1", 5, 1);
        hasFault("law 1 1", 7, 1);
        hasFault("law 1 1;", 8, 1);
        hasFault("law 1 1;person", 14, 1);
        hasFault("law 1 1;person 1", 16, 1);
        hasFault("law 1 1;person 1 1", 18, 1);
        hasFault("law 1 1;person 1 1 open", 23, 1);
        hasFault(TWO + "owes", TWO.length() + 4, 1);
        hasFault(TWO + "owes 0", TWO.length() + 6, 1);
        hasFault(TWO + "owes 0 1", TWO.length() + 8, 1);
        hasFault(TWO + "owes 0 1 1", TWO.length() + 10, 1);
        hasFault(TWO + "owes 0 1 1  \n", TWO.length() + 13, 1);
    }

    private static void readsATapeOf400() {
        String text = SEVEN + "owes 0 6 999;".repeat(20);
        isRead(text + " ".repeat(400 - text.length()), 7);
        isRead(" ".repeat(400 - text.length()) + text, 7);
        isRead(" ".repeat(400 - LAW.length() - ONE.length()) + LAW + ONE, 1);
        check.isTrue("twenty debts of seven fit", text.length() <= 400);
    }

    private static void tellsTheLastPlaces() {
        hasFault(" ".repeat(400), 400, 1);
        hasFault(" ".repeat(399) + ";", 399, 1);
        hasFault(" ".repeat(399) + "l", 399, 1);
        hasFault(" ".repeat(397) + "law", 400, 1);
        hasFault("a".repeat(400), 0, 1);
        hasFault("law " + "1".repeat(396), 4, 1);
        String law = " ".repeat(395) + "law";
        hasFault(law + " 0", 399, 2);
        hasFault(law + "21", 398, 2);
        String ahead = LAW + " ".repeat(394 - 7 * ONE.length() - LAW.length());
        hasFault(ahead + ONE.repeat(7) + "person", 394, 3);
        hasFault(ahead + ONE.repeat(7) + "perso", 394, 1);
    }

    /** Terms 1: "NAMES (letters a to z)". */
    private static void namesAreOfLettersAlone() {
        char[] aside = {'a' - 1, 'z' + 1, 'A', 'Z', '_', 'a' + 128};
        for (char c : aside) {
            hasFault("law" + c + " 1 1;", 3, 1);
            hasFault(c + "law 1 1;", 0, 1);
            hasFault("l" + c + "w 1 1;", 0, 1);
        }
        hasFault("lawa 1 1;", 0, 1);
        hasFault("lawz 1 1;", 0, 1);
        hasFault("alaw 1 1;", 0, 1);
        hasFault("zlaw 1 1;", 0, 1);
        hasFault("la w 1 1;", 0, 1);
        hasFault("la", 0, 1);
        hasFault("LAW 1 1;", 0, 1);
        String[] words = {"law", "person", "open", "owes"};
        for (String word : words) {
            for (int k = 0; k < word.length(); k++) {
                String odd = word.substring(0, k) + (char) ('x' + k % 2) + word.substring(k + 1);
                String text = "law 1 1;person 0 0 open;person 0 0 open;owes 0 1 1;";
                hasFault(text.replaceFirst(word, odd), text.indexOf(word), 1);
            }
        }
        hasFault(LAW + "persons 1 1 open;", 9, 1);
        hasFault(LAW + "perso 1 1 open;", 9, 1);
        hasFault(TWO + "owe 0 1 1;", TWO.length(), 1);
        hasFault(TWO + "owess 0 1 1;", TWO.length(), 1);
    }

    /** Terms 1: "NUMBERS (figures, 3 at most)". */
    private static void numbersHaveThreeFiguresAtMost() {
        isRead("law 001 000;person 000 099 open;person 999 9 open;owes 000 001 001;", 2);
        hasFault("law 0001 0;", 4, 1);
        hasFault("law 1 0000;", 6, 1);
        hasFault(LAW + "person 0001 0 open;", 16, 1);
        hasFault(LAW + "person 1 0001 open;", 18, 1);
        hasFault(TWO + "owes 0000 1 1;", TWO.length() + 5, 1);
        hasFault(TWO + "owes 0 0001 1;", TWO.length() + 7, 1);
        hasFault(TWO + "owes 0 1 0001;", TWO.length() + 9, 1);
        hasFault("law 99999999999 0;", 4, 1);
        // 2 to the 32 and 1 more
        hasFault("law 4294967297 0;", 4, 1);
        char[] aside = {'0' - 1, '9' + 1};
        for (char c : aside) {
            hasFault("law " + c + " 0;", 4, 1);
            hasFault("law 1" + c + "1 0;", 5, 1);
        }
        isRead("law 9 9;person 90 09 open;", 1);
    }

    /** Terms 1: "bytes 32 and 10 between". */
    private static void onlyTwoBytesStandBetween() {
        isRead("\n law\n1 \n 0\n;\n\nperson \n0\n0\nhedge ; \n", 1);
        isRead("law1 0;person1 1open;", 1);
        int[] aside = {0, 9, 11, 12, 13, 31, 33, 160, 127, 255};
        for (int c : aside) {
            hasFault("law" + (char) c + "1 0;", 3, 1);
            hasFault((char) c + "law 1 0;", 0, 1);
            hasFault(LAW + ONE + (char) c, LAW.length() + ONE.length(), 1);
        }
        hasFault("law 1 0;person 1 1open ;person", 30, 1);
        hasFault("law 12;", 6, 1);
        hasFault("law 1 2 3;", 8, 1);
    }

    private static void otherBytesAreNoTokens() {
        for (int c = 0; c < 256; c++) {
            boolean isToken = c >= 'a' && c <= 'z' || c >= '0' && c <= '9' || c == ';' || c == 32 || c == 10;
            if (!isToken) {
                hasFault("law 1 0" + (char) c, 7, 1);
                hasFault("law 1 " + (char) c, 6, 1);
            }
        }
        hasFault("law 1 0:", 7, 1);
        hasFault("law 1 0<", 7, 1);
    }

    /** Terms 1: "UNIT RATE ';' (1 to 20; ..)". */
    private static void unitsGoFrom1To20() {
        for (int unit = 1; unit <= 20; unit++) {
            DebtFronts x = Check.townOf("law " + unit + " 0;" + ONE + ONE + "owes 0 1 120;");
            check.due("SHADE by " + unit, x.person(0, 3), Math.min(120 / unit, 9));
        }
        hasFault("law 0 0;", 4, 2);
        hasFault("law 000 0;", 4, 2);
        hasFault("law 21 0;", 4, 2);
        hasFault("law 999 0;", 4, 2);
    }

    /** Terms 1: "(..; 0 to 20 of 100)". */
    private static void ratesGoFrom0To20() {
        for (int rate = 0; rate <= 20; rate++) {
            DebtFronts x = Check.townOf("law 1 " + rate + ";person 0 0 open;person 0 0 open;owes 0 1 300;");
            x.quarter(0);
            check.due("grown by " + rate, x.person(0, 2), 300 + 3 * rate);
        }
        hasFault("law 1 21;", 6, 2);
        hasFault("law 1 999;", 6, 2);
    }

    /** Terms 1: "CASH .. (0 to 999; ..)". */
    private static void cashGoesUpTo999() {
        int[] fine = {0, 1, 998, 999};
        for (int cash : fine) {
            DebtFronts x = Check.townOf(LAW + "person " + cash + " 0 open;");
            check.due("CASH", x.person(0, 0), cash);
            check.due("CASH of all", x.count(5), cash);
        }
        hasFault(LAW + "person 1000 0 open;", 16, 1);
    }

    /** Terms 1: "INCOME .. (..; 0 to 99; ..)". */
    private static void incomesGoUpTo99() {
        int[] fine = {0, 1, 98, 99};
        for (int income : fine) {
            DebtFronts x = Check.townOf(LAW + "person 0 " + income + " open;");
            check.due("INCOME", x.person(0, 1), income);
            x.quarter(0);
            check.due("CASH", x.person(0, 0), income);
        }
        hasFault(LAW + "person 0 100 open;", 18, 2);
        hasFault(LAW + "person 0 999 open;", 18, 2);
    }

    /** Terms 1: "FRONT: 'open' | 'hedge'". */
    private static void frontsAreOpenOrHedge() {
        check.due("open", Check.townOf(LAW + "person 0 0 open;").person(0, 5), 0);
        check.due("hedge", Check.townOf(LAW + "person 0 0 hedge;").person(0, 5), 1);
        String[] none = {"ope", "opens", "hedg", "hedges", "Open", "person", "law", "owes", "0", ";", "openhedge"};
        for (String front : none) {
            hasFault(LAW + "person 0 0 " + front + ";", 20, 1);
        }
        hasFault(LAW + "person 0 0 open hedge;", 25, 1);
    }

    /** Terms 1: "PEOPLE 0 .. 6, 7 at most", "law person { person }"; fault 3 "(its word)". */
    private static void peopleAreOneToSeven() {
        for (int people = 1; people <= 7; people++) {
            isRead(LAW + ONE.repeat(people), people);
        }
        hasFault(LAW, 9, 1);
        hasFault(LAW + DEBT, 9, 1);
        hasFault(SEVEN + ONE, SEVEN.length(), 3);
        hasFault(SEVEN + "person", SEVEN.length(), 3);
        hasFault(SEVEN + " \nperson 1000", SEVEN.length() + 2, 3);
        hasFault(SEVEN + "persons", SEVEN.length(), 1);
        hasFault(LAW + ONE.repeat(6) + "person 0 100 open;" + ONE, LAW.length() + 6 * ONE.length() + 9, 2);
    }

    /** Terms 1: "(unlike PEOPLE told; ..)". */
    private static void debtsAreOfPeopleTold() {
        for (int people = 2; people <= 7; people++) {
            String text = LAW + ONE.repeat(people);
            isRead(text + "owes 0 " + (people - 1) + " 1;", people);
            isRead(text + "owes " + (people - 1) + " 0 1;", people);
            hasFault(text + "owes " + people + " 0 1;", text.length() + 5, 2);
            hasFault(text + "owes 0 " + people + " 1;", text.length() + 7, 2);
        }
        hasFault(TWO + "owes 999 0 1;", TWO.length() + 5, 2);
        hasFault(TWO + "owes 0 999 1;", TWO.length() + 7, 2);
        hasFault(LAW + ONE + "owes 0 1 1;", LAW.length() + ONE.length() + 7, 2);
        hasFault(LAW + ONE + "owes 1 0 1;", LAW.length() + ONE.length() + 5, 2);
    }

    private static void debtsAreOfUnlikePeople() {
        for (int p = 0; p < 7; p++) {
            hasFault(SEVEN + "owes " + p + " " + p + " 1;", SEVEN.length() + 7, 2);
        }
        hasFault(LAW + ONE + "owes 0 0 1;", LAW.length() + ONE.length() + 7, 2);
        hasFault(TWO + "owes 01 001 1;", TWO.length() + 8, 2);
    }

    /** Terms 1: "1 to 999; A owes B so much more". */
    private static void sumsGoFrom1To999() {
        check.due("1", Check.townOf(TWO + "owes 0 1 1;").person(0, 11), 1);
        check.due("999", Check.townOf(TWO + "owes 0 1 999;").person(0, 11), 999);
        check.due("more", Check.townOf(TWO + "owes 0 1 999;owes 0 1 1;").person(0, 11), 1000);
        check.due("the other way", Check.townOf(TWO + "owes 0 1 999;owes 1 0 1;").person(1, 10), 1);
        hasFault(TWO + "owes 0 1 0;", TWO.length() + 9, 2);
        hasFault(TWO + "owes 0 1 000;", TWO.length() + 9, 2);
        hasFault(TWO + "owes 0 1 1000;", TWO.length() + 9, 1);
    }

    /** Terms 1: "20 at most"; fault 3 "(its word)". */
    private static void debtsAreTwentyAtMost() {
        isRead(TWO, 2);
        for (int debts = 19; debts <= 20; debts++) {
            DebtFronts x = Check.townOf(TWO + "owes 1 0 999;".repeat(debts));
            check.due(debts + " debts told", x.person(1, 10), 999 * debts);
            check.due("it is one debt", x.count(2), 1);
        }
        String twenty = TWO + DEBT.repeat(20);
        hasFault(twenty + DEBT, twenty.length(), 3);
        hasFault(twenty + "owes", twenty.length(), 3);
        hasFault(twenty + "owes 9 9 0", twenty.length(), 3);
        hasFault(twenty + "owe", twenty.length(), 1);
        hasFault(twenty + ";", twenty.length(), 1);
    }

    /** Terms 1: "town: law person { person } { debt }". */
    private static void partsStandInTheirOrder() {
        hasFault(ONE + LAW, 0, 1);
        hasFault(LAW + LAW + ONE, 9, 1);
        hasFault(TWO + DEBT + ONE, TWO.length() + DEBT.length(), 1);
        hasFault(TWO + LAW, TWO.length(), 1);
        hasFault(TWO + DEBT + LAW, TWO.length() + DEBT.length(), 1);
        hasFault(TWO + ";", TWO.length(), 1);
        hasFault(TWO + "7", TWO.length(), 1);
        hasFault(TWO + "open", TWO.length(), 1);
        hasFault(";" + LAW + ONE, 0, 1);
        hasFault("5" + LAW + ONE, 0, 1);
        hasFault("law 1 0 person 1 1 open;", 8, 1);
        hasFault("law ; 1 0;", 4, 1);
        hasFault("law a 1;", 4, 1);
        hasFault("law 1 a;", 6, 1);
        hasFault(LAW + "person a 1 open;", 16, 1);
        hasFault(LAW + "person 1 a open;", 18, 1);
        hasFault(LAW + "person 1 1 open person 1 1 open;", 25, 1);
        hasFault(TWO + "owes ; 1 1;", TWO.length() + 5, 1);
        hasFault(TWO + "owes 0 a 1;", TWO.length() + 7, 1);
        hasFault(TWO + "owes 0 1 ;", TWO.length() + 9, 1);
        hasFault(TWO + "owes 0 1 1 1;", TWO.length() + 11, 1);
        hasFault(TWO + "owes 0 1 1 owes", TWO.length() + 11, 1);
    }

    /** Terms 1: "FAULTS, the first TOKEN that has one". */
    private static void theFirstTokenWithAFaultCounts() {
        hasFault("law 0 21;", 4, 2);
        hasFault("law 0 0000;", 4, 2);
        hasFault("law 0000 0;", 4, 1);
        hasFault("law 1 21 !", 6, 2);
        hasFault(LAW + "person 1000 100 x;", 16, 1);
        hasFault(LAW + "person 1 100 x;", 18, 2);
        hasFault(TWO + "owes 2 2 0;", TWO.length() + 5, 2);
        hasFault(TWO + "owes 0 0 0;", TWO.length() + 7, 2);
        hasFault(SEVEN + "person 0 0 x;" + DEBT.repeat(8), SEVEN.length(), 3);
    }

    /** Terms 1: "of one TOKEN the least": one that cannot stand there is not asked what its number is, or for room. */
    private static void ofOneTokenTheLeastCounts() {
        hasFault("999", 0, 1);
        hasFault(LAW + "person 0 0 999;", 20, 1);
        hasFault("law 1 1 999;", 8, 1);
        hasFault("law 9999 0;", 4, 1);
        String full = SEVEN + DEBT.repeat(20);
        hasFault(full + "person", full.length(), 1);
        hasFault(SEVEN + DEBT + ONE, SEVEN.length() + DEBT.length(), 1);
        hasFault(SEVEN.substring(0, SEVEN.length() - 1) + " person", SEVEN.length(), 1);
        hasFault(full.substring(0, full.length() - 1) + "owes", full.length() - 1, 1);
    }

    /** Promise 8: "The number of the latest FAULT; 0 before one." */
    private static void tellsTheLatestFault() {
        DebtFronts x = new DebtFronts();
        check.due("before one", x.fault(), 0);
        Check.read(x, LAW + ONE);
        check.due("a town has none", x.fault(), 0);
        Check.read(x, SEVEN + ONE);
        check.due("3", x.fault(), 3);
        check.due("asked again", x.fault(), 3);
        Check.read(x, "law 0");
        check.due("2", x.fault(), 2);
        Check.read(x, LAW + ONE);
        check.due("the latest one yet", x.fault(), 2);
        x.town();
        check.due("1", x.fault(), 1);
        Check.read(x, "law 0");
        check.due("2 again", x.fault(), 2);
    }

    /** Promise 7: "-1000100 less the place of a FAULT: all stays", but for the tape and the FAULT. */
    private static void allStaysOnAFault() {
        String[] faulty = {"", "law 10 5;person 9 9 hedge;owes 0 0 1;", LAW + ONE.repeat(8), TWO + "owes 1 0 9;x"};
        for (String text : faulty) {
            // the tape ahead is read first, so that the twin's tape is empty, and its latest FAULT the same
            Twins t = new Twins(check, x -> {
                Check.feed(x, text);
                x.town();
                Worlds.withoutTown(x);
                Check.read(x, Worlds.FOUR);
                x.image(0);
                x.quarter(0);
                x.image(1);
                x.paint(1, 3);
                x.ask(3, 0);
                x.set(0, -1, 0);
                Check.feed(x, text);
                x.town();
            });
            DebtFronts y = new DebtFronts();
            int due = Check.read(y, text);
            check.isTrue(text, due <= -1000100);
            t.keeps("again: " + text, due, x -> Check.read(x, text));
        }
        DebtFronts x = new DebtFronts();
        Worlds.full(x);
        int acts = x.count(4);
        int looks = x.person(0, 4);
        check.due("24 bytes are there", x.count(6), 24);
        check.due("a fault behind them", Check.read(x, "!"), -1000100 - 24);
        check.due("acts stay", x.count(4), acts);
        check.due("looks stay", x.person(0, 4), looks);
        check.due("the trace stays", x.trace(0), 11);
        check.due("the finding stays", x.status(), 2);
        check.due("the image stays", x.restore(1), 1);
    }

    /** Terms 1: "A TOWN that is read stands in place of the one before (none at first)". */
    private static void aTownStandsInPlaceOfTheOneBefore() {
        check.due("none at first", new DebtFronts().count(1), 0);
        DebtFronts x = Check.townOf("law 1 20;" + "person 9 9 hedge;".repeat(7) + "owes 0 6 9;owes 6 0 9;owes 3 4 1;");
        check.due("fewer", Check.read(x, "law 20 0;person 1 0 open;person 2 3 open;"), 2);
        check.due("nobody more", x.person(2, 0), Check.BAD);
        check.due("no debt", x.count(2), 0);
        check.due("cash", x.count(5), 3);
        check.due("no hedge", x.person(0, 5) + x.person(1, 5), 0);
        check.due("income", x.person(1, 1), 3);
        x.loan(0, 1, 2);
        check.due("UNIT", x.person(0, 3), 0);
        check.due("more again", Check.read(x, SEVEN), 7);
        check.due("no debt", x.count(2), 0);
        check.due("no hedge", x.person(6, 5), 0);
        check.due("rows stay", x.count(0), 0);
    }

    /** Terms 1: "QUARTER 0, nobody has FAILED, nothing is PAINTED, no ACT can be undone". */
    private static void aTownBeginsAnew() {
        String text = "law 1 0;person 0 0 open;person 0 0 open;owes 0 1 5;owes 1 0 3;";
        DebtFronts x = Check.townOf(text);
        x.quarter(0);
        x.paint(0, 9);
        x.paint(1, 0);
        check.due("0 has FAILED", x.person(0, 6), 1);
        check.due("1 has FAILED", x.person(1, 6), 1);
        check.due("acts", x.count(4), 3);
        check.due("read again", Check.read(x, text), 2);
        check.due("QUARTER 0", x.count(3), 0);
        for (int p = 0; p <= 1; p++) {
            check.due("has not FAILED " + p, x.person(p, 6), 0);
            check.due("is not PAINTED " + p, x.person(p, 4), x.person(p, 3));
        }
        check.due("no ACT", x.count(4), 0);
        check.due("no undo", x.undo(), Check.STATE);
        check.due("the first QUARTER", x.quarter(0), 1);
        check.due("one ACT", x.count(4), 1);
        check.due("undone", x.undo(), 0);
        check.due("none more", x.undo(), Check.STATE);
        check.due("the town stays", x.count(1), 2);
    }
}
