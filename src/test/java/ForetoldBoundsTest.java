/** Every sentence about what is FORETOLD that names a bound, and about images: Terms 3, promises 16 to 24. */
final class ForetoldBoundsTest {
    private static final Check check = new Check();
    private static final int MOST = Integer.MAX_VALUE;
    private static final int LEAST = Integer.MIN_VALUE;
    private static final String NOTHING = "person 0 0 open;";
    private static final Twins full = new Twins(check, Worlds::full);
    private static final Twins noTown = new Twins(check, Worlds::withoutTown);

    public static void main(String[] args) {
        fitsAreOfRows();
        fitsAreOf0To3Units();
        fitsAreOfSixItems();
        fitsAreOfShades0To9();
        fitsAreOfNets9BothWays();
        fitsFindsInOrder();
        fitsTellsTheMostWays();
        fitsNeedsNoTown();
        hidingIsOf0And1();
        hidingStrikesTheLesser();
        hidingTellsWhoIsPaler();
        clearIsOf0To999999();
        clearsByJustSoMuch();
        clearsWhoHasShade1();
        coinIsOf0To7();
        coinIsNoneBeyondAll();
        runIsOf1To9And0To2();
        runsFromWhatLooksSo();
        runsInNoRound();
        runsInSevenRounds();
        runsShortAsLongAsOneIs();
        cheatsLookLess();
        walksAreOfHouses();
        walksFromTheFirstToTheLast();
        walksToTheFirstOfSeveral();
        imagesAre0And1();
        imagesNeedATown();
        restoresWhatWasKept();
        restoresNoActs();
        nothingChangesByForetelling();
        check.end();
    }

    private static DebtFronts rowOf(int lane, int... items) {
        DebtFronts x = new DebtFronts();
        Check.fill(x, 0, lane, items);
        return x;
    }

    /** Promise 16: "BAD: ROW". */
    private static void fitsAreOfRows() {
        int[] none = {-1, 8, LEAST, MOST};
        for (int row : none) {
            full.refuses("fits of row " + row, Check.BAD, y -> y.fits(row, 0, 1));
        }
        for (int row = 0; row <= 7; row++) {
            DebtFronts x = new DebtFronts();
            check.due("missing " + row, x.fits(row, 0, 1), Check.NULL);
            Check.fill(x, row, 2, 1, 1, 1, 0, 0, 0);
            check.due("row " + row, x.fits(row, 0, 1), 2);
        }
        full.refuses("a missing row", Check.NULL, y -> y.fits(7, 0, 1));
    }

    /** Terms 3: "each of the six debts 0 to m (0 to 3) UNITS". */
    private static void fitsAreOf0To3Units() {
        int[] none = {-1, 4, LEAST, MOST};
        for (int m : none) {
            full.refuses("m " + m, Check.BAD, y -> y.fits(0, 0, m));
        }
        for (int m = 0; m <= 3; m++) {
            // the most that each can owe by m, and one more
            check.due("all, m " + m, rowOf(2, 2 * m, 2 * m, 2 * m, 0, 0, 0).fits(0, 0, m), 1);
            check.due("one more, m " + m, rowOf(2, 2 * m + 1, 2 * m, 2 * m, 0, 0, 0).fits(0, 0, m), 0);
            check.due("one debt of m " + m, rowOf(2, m, 0, 0, -m, m, 0).fits(0, 0, m), 1);
            if (m < 3) {
                check.due("one debt above m " + m, rowOf(2, m + 1, 0, 0, -m - 1, m + 1, 0).fits(0, 0, m), 0);
                check.due("but by m and 1", rowOf(2, m + 1, 0, 0, -m - 1, m + 1, 0).fits(0, 0, m + 1), 1);
            }
        }
        check.due("nothing by 0", rowOf(2, 0, 0, 0, 0, 0, 0).fits(0, 0, 0), 1);
        check.due("something by 0", rowOf(2, 1, 0, 0, -1, 1, 0).fits(0, 0, 0), 0);
        full.keepsAllButStatus("m 0", 0, y -> y.fits(0, 0, 0));
        full.keepsAllButStatus("m 3", 2, y -> y.fits(0, 0, 3));
    }

    /** Promise 16: "six ITEMS of a ROW from i on .. PLACE". */
    private static void fitsAreOfSixItems() {
        for (int n = 0; n <= 40; n++) {
            DebtFronts x = new DebtFronts();
            x.row(5, n % 3, n);
            check.due("first of " + n, x.fits(5, 0, 0), n < 6 ? Check.PLACE : 1);
            check.due("last of " + n, x.fits(5, n - 6, 0), n < 6 ? Check.PLACE : 1);
            check.due("beyond the last of " + n, x.fits(5, n - 5, 0), Check.PLACE);
            check.due("at the end of " + n, x.fits(5, n, 0), Check.PLACE);
            check.due("ahead of " + n, x.fits(5, -1, 0), Check.PLACE);
        }
        int[] none = {-1, 7, 12, LEAST, LEAST + 5, MOST, MOST - 5};
        for (int i : none) {
            full.refuses("from " + i, Check.PLACE, y -> y.fits(0, i, 1));
        }
        full.keepsAllButStatus("the last six", 2, y -> y.fits(0, 6, 1) > 0 ? 2 : 0);
        full.refuses("a row without ITEMS", Check.PLACE, y -> y.fits(3, 0, 1));
    }

    private static void itemIs(int k, int v, boolean isBad) {
        for (int lane = 0; lane <= 2; lane++) {
            int[] items = new int[6];
            items[k] = v;
            check.due("item " + k + " is " + v, rowOf(lane, items).fits(0, 0, 3) == Check.BAD ? 1 : 0, isBad ? 1 : 0);
        }
    }

    /** Terms 3: "told SHADES (0 to 9)"; promise 16: "then BAD: an ITEM". */
    private static void fitsAreOfShades0To9() {
        for (int k = 0; k <= 2; k++) {
            for (int v = -12; v <= 12; v++) {
                itemIs(k, v, v < 0 || v > 9);
            }
            int place = k;
            Twins dark = new Twins(check, y -> {
                Worlds.full(y);
                y.set(2, place, 10);
                y.set(2, 9, 0);
            });
            dark.refuses("SHADE " + k + " 10", Check.BAD, y -> y.fits(2, 0, 3));
        }
    }

    /** Terms 3: "told NETS (in UNITS, -9 to 9)". */
    private static void fitsAreOfNets9BothWays() {
        for (int k = 3; k <= 5; k++) {
            for (int v = -12; v <= 12; v++) {
                itemIs(k, v, v < -9 || v > 9);
            }
            int place = k;
            int[] none = {-10, 10, LEAST, MOST};
            for (int v : none) {
                Twins wrong = new Twins(check, y -> {
                    Worlds.full(y);
                    y.set(2, place, v);
                    y.set(2, 9, 0);
                });
                wrong.refuses("NET " + k + " " + v, Check.BAD, y -> y.fits(2, 0, 3));
            }
        }
    }

    /** Promise 16: "BAD: ROW, m; NULL; PLACE; then BAD: an ITEM". */
    private static void fitsFindsInOrder() {
        Twins wrong = new Twins(check, y -> {
            Worlds.full(y);
            y.set(2, 0, 10);
            y.set(2, 0, 10);
        });
        wrong.refuses("no row, m", Check.BAD, y -> y.fits(8, 0, 4));
        wrong.refuses("m, missing", Check.BAD, y -> y.fits(7, 0, 4));
        wrong.refuses("m, no place", Check.BAD, y -> y.fits(2, 1, 4));
        wrong.refuses("missing, no place", Check.NULL, y -> y.fits(7, -1, 3));
        wrong.refuses("no place, an ITEM", Check.PLACE, y -> y.fits(2, 1, 3));
        wrong.refuses("an ITEM", Check.BAD, y -> y.fits(2, 0, 3));
        Twins found = new Twins(check, y -> {
            Worlds.full(y);
            y.set(2, 5, 10);
            y.drop(7);
        });
        found.refuses("an ITEM leaves status()", Check.BAD, y -> y.fits(2, 0, 3));
    }

    /** All tellings by m: of each the ways are counted, and all ways together are (m and 1) to the sixth. */
    private static void fitsTellsTheMostWays() {
        int[] all = {1, 64, 729, 4096};
        for (int m = 0; m <= 2; m++) {
            int sum = 0;
            for (int told = 0; told < (2 * m + 1) * (2 * m + 1) * (2 * m + 1); told++) {
                int a = told % (2 * m + 1);
                int b = told / (2 * m + 1) % (2 * m + 1);
                int c = told / (2 * m + 1) / (2 * m + 1);
                for (int net = -2 * m; net <= 2 * m; net++) {
                    sum += waysOfNets(m, a, b, c, net);
                }
            }
            check.due("all ways by " + m, sum, all[m]);
        }
    }

    private static int waysOfNets(int m, int a, int b, int c, int net) {
        int sum = 0;
        DebtFronts x = rowOf(2, a, b, c, net, 0, 0);
        for (int other = -2 * m; other <= 2 * m; other++) {
            x.set(0, 4, other);
            x.set(0, 5, -net - other);
            sum += x.fits(0, 0, m);
        }
        return sum;
    }

    private static void fitsNeedsNoTown() {
        noTown.keepsAllButStatus("no TOWN", 2, y -> y.fits(0, 0, 1));
    }

    /** Promise 17: "PEOPLE (what = 0), how much (1). BAD; STATE: no TOWN (ahead of BAD)". */
    private static void hidingIsOf0And1() {
        int[] none = {-1, 2, LEAST, MOST};
        for (int what : none) {
            full.refuses("hiding " + what, Check.BAD, y -> y.hiding(what));
            noTown.refuses("no TOWN, " + what, Check.STATE, y -> y.hiding(what));
        }
        noTown.refuses("no TOWN, 0", Check.STATE, y -> y.hiding(0));
        noTown.refuses("no TOWN, 1", Check.STATE, y -> y.hiding(1));
        full.keeps("0", 2, y -> y.hiding(0));
        full.keeps("1", 40, y -> y.hiding(1));
    }

    /** Terms 3: "of each two who owe one another the lesser of both debts is struck out of both". */
    private static void hidingStrikesTheLesser() {
        int[][] pairs = {{5, 0, 0}, {5, 1, 2}, {5, 4, 8}, {5, 5, 10}, {5, 6, 10}, {999, 998, 1996}};
        for (int[] pair : pairs) {
            String text = "law 1 0;" + NOTHING.repeat(7) + "owes 0 6 " + pair[0] + ";"
                    + (pair[1] > 0 ? "owes 6 0 " + pair[1] + ";" : "");
            check.due(pair[0] + " and " + pair[1], Check.townOf(text).hiding(1), pair[2]);
        }
        DebtFronts x = Check.townOf("law 1 0;" + NOTHING.repeat(3) + "owes 0 1 5;owes 1 2 5;owes 2 0 5;");
        check.due("round about is not one another", x.hiding(1), 0);
        x = Check.townOf("law 1 0;" + NOTHING.repeat(3) + "owes 0 1 1;owes 1 0 2;owes 0 2 3;owes 2 0 4;owes 1 2 5;owes 2 1 6;");
        check.due("each two", x.hiding(1), 2 * (1 + 3 + 5));
        check.due("who is paler", x.hiding(0), 7);
        check.due("alone", Check.townOf("law 1 0;person 0 0 open;").hiding(1), 0);
    }

    /** Terms 3: "PEOPLE (bits) whose SHADE is less then". */
    private static void hidingTellsWhoIsPaler() {
        DebtFronts x = Check.townOf("law 10 0;" + NOTHING.repeat(2) + "owes 0 1 20;owes 1 0 1;");
        check.due("20 less 1", x.hiding(0), 1);
        x = Check.townOf("law 10 0;" + NOTHING.repeat(2) + "owes 0 1 21;owes 1 0 1;");
        check.due("21 less 1", x.hiding(0), 0);
        x = Check.townOf("law 10 0;" + NOTHING.repeat(2) + "owes 0 1 100;owes 1 0 10;");
        check.due("100 less 10 has SHADE 9 yet, 10 less 10 has not", x.hiding(0), 2);
        x = Check.townOf("law 10 0;" + NOTHING.repeat(2) + "owes 0 1 100;owes 1 0 11;");
        check.due("100 less 11 has not", x.hiding(0), 3);
        x = Check.townOf("law 10 0;" + NOTHING.repeat(2) + "owes 0 1 9;owes 1 0 9;");
        check.due("white ones cannot be paler", x.hiding(0), 0);
        x = Check.townOf("law 1 0;" + NOTHING.repeat(7) + "owes 0 6 1;owes 6 0 1;");
        check.due("the first and the last", x.hiding(0), 65);
        x.paint(0, 0);
        x.hedge(6, 1);
        check.due("by SHADES, not by looks", x.hiding(0), 65);
    }

    /** Promise 18: "CLEAR by c COIN (0 to 999999) .. BAD; STATE: no TOWN (ahead of BAD)". */
    private static void clearIsOf0To999999() {
        int[] none = {-1, 1000000, LEAST, MOST};
        for (int c : none) {
            full.refuses("clear " + c, Check.BAD, y -> y.clear(c));
            noTown.refuses("no TOWN, " + c, Check.STATE, y -> y.clear(c));
        }
        noTown.refuses("no TOWN, 0", Check.STATE, y -> y.clear(0));
        full.keeps("0", 0, y -> y.clear(0));
        full.keeps("999999", 2, y -> y.clear(999999));
    }

    /** Terms 3: "needs what is OWED by him less (SHADE times UNIT less 1): how many can be so by c COIN in all". */
    private static void clearsByJustSoMuch() {
        for (int unit = 1; unit <= 20; unit++) {
            for (int more = 0; more < unit; more++) {
                int owed = 3 * unit + more;
                DebtFronts x = Check.townOf("law " + unit + " 0;" + NOTHING.repeat(2) + "owes 0 1 " + owed + ";");
                check.due("less than needed of " + owed, x.clear(more), 0);
                check.due("just as needed of " + owed, x.clear(more + 1), 1);
                check.due("coin of " + owed, x.coin(1), more + 1);
            }
        }
        // needs 9, 1, 5, 5, 2, 1 and 7 of UNIT 10: the least first are 1 1 2 5 5 7 9
        int[] owed = {18, 10, 24, 34, 91, 50, 26};
        StringBuilder text = new StringBuilder("law 10 0;" + NOTHING.repeat(7));
        for (int p = 0; p < 7; p++) {
            text.append("owes ").append(p).append(' ').append((p + 1) % 7).append(' ').append(owed[p]).append(';');
        }
        DebtFronts x = Check.townOf(text.toString());
        int[] sums = {0, 1, 2, 4, 9, 14, 21, 30};
        for (int k = 0; k <= 7; k++) {
            check.due("coin for " + k, x.coin(k), sums[k]);
            check.due("clear by it", x.clear(sums[k]), k);
            if (k > 0) {
                check.due("clear by one less", x.clear(sums[k] - 1), k - 1);
            }
        }
        check.due("no more than all", x.clear(31), 7);
    }

    /** Terms 3: "who has SHADE 1 and more"; of SHADE 9 all above it is needed. */
    private static void clearsWhoHasShade1() {
        DebtFronts x = Check.townOf("law 10 0;" + NOTHING.repeat(3) + "owes 0 1 9;owes 1 2 10;owes 2 0 999;owes 2 1 1;");
        check.due("SHADE 0 is not among them", x.coin(3), Check.NONE);
        check.due("SHADE 1", x.coin(1), 1);
        check.due("SHADE 9", x.coin(2), 1 + 1000 - 89);
        check.due("one less", x.clear(911), 1);
        check.due("just so", x.clear(912), 2);
        x = Check.townOf("law 10 0;" + NOTHING.repeat(2) + "owes 0 1 9;owes 1 0 5;");
        check.due("nobody", x.clear(999999), 0);
        check.due("nobody", x.coin(1), Check.NONE);
        x = Check.townOf("law 1 0;" + NOTHING.repeat(2) + "owes 0 1 1;");
        check.due("1 by UNIT 1", x.coin(1), 1);
    }

    /** Promise 19: "COIN for k (0 to 7) .. BAD; STATE: no TOWN (ahead of BAD)". */
    private static void coinIsOf0To7() {
        int[] none = {-1, 8, LEAST, MOST};
        for (int k : none) {
            full.refuses("coin " + k, Check.BAD, y -> y.coin(k));
            noTown.refuses("no TOWN, " + k, Check.STATE, y -> y.coin(k));
        }
        noTown.refuses("no TOWN, 0", Check.STATE, y -> y.coin(0));
        full.keeps("0", 0, y -> y.coin(0));
        full.keeps("1", 1, y -> y.coin(1));
        full.keeps("2", 1 + 293 - 89, y -> y.coin(2));
        full.keeps("3", Check.NONE, y -> y.coin(3));
        full.keeps("7", Check.NONE, y -> y.coin(7));
    }

    /** Promise 19: "NONE: there are not so many". */
    private static void coinIsNoneBeyondAll() {
        for (int dark = 0; dark <= 6; dark++) {
            StringBuilder text = new StringBuilder("law 1 0;" + NOTHING.repeat(7));
            for (int p = 0; p < dark; p++) {
                text.append("owes ").append(p).append(" 6 1;");
            }
            DebtFronts x = Check.townOf(text.toString());
            for (int k = 0; k <= 7; k++) {
                check.due("coin for " + k + " of " + dark, x.coin(k), k <= dark ? k : Check.NONE);
            }
        }
    }

    /** Promise 20: "rounds (what = 0), SHORT ones (1), CALLED ones (2). BAD; STATE: no TOWN (ahead of BAD)". */
    private static void runIsOf1To9And0To2() {
        int[] noShade = {0, -1, 10, LEAST, MOST};
        int[] noWhat = {-1, 3, LEAST, MOST};
        for (int t : noShade) {
            full.refuses("t " + t, Check.BAD, y -> y.run(t, 0));
            full.refuses("t " + t + ", what", Check.BAD, y -> y.run(t, 3));
            noTown.refuses("no TOWN, t " + t, Check.STATE, y -> y.run(t, 0));
        }
        for (int what : noWhat) {
            full.refuses("what " + what, Check.BAD, y -> y.run(1, what));
            noTown.refuses("no TOWN, what " + what, Check.STATE, y -> y.run(1, what));
        }
        noTown.refuses("no TOWN", Check.STATE, y -> y.run(1, 0));
        // 0 looks 1, owes 1 more than he has: 1 is called, pays what he owes, and 0 has it in the next round
        full.keeps("rounds", 2, y -> y.run(1, 0));
        full.keeps("SHORT", 1, y -> y.run(1, 1));
        full.keeps("CALLED", 3, y -> y.run(1, 2));
        full.keeps("9", 0, y -> y.run(9, 0));
    }

    /** Terms 3: "all whose front is not HIDDEN and LOOKS t or more". */
    private static void runsFromWhatLooksSo() {
        for (int shade = 0; shade <= 9; shade++) {
            DebtFronts x = Check.townOf("law 1 0;person 9 0 open;" + NOTHING + (shade > 0 ? "owes 0 1 " + shade + ";" : ""));
            for (int t = 1; t <= 9; t++) {
                check.due("SHADE " + shade + " at " + t, x.run(t, 2), shade >= t ? 1 : 0);
            }
            x.hedge(0, 1);
            check.due("behind a hedge", x.run(1, 2), 0);
            x.hedge(0, 0);
            x.paint(1, shade);
            for (int t = 1; t <= 9; t++) {
                check.due("PAINTED " + shade + " at " + t, x.run(t, 2), shade >= t ? 3 : 0);
            }
            x.paint(0, 0);
            check.due("PAINTED paler", x.run(1, 2), shade >= 1 ? 2 : 0);
        }
    }

    /** Terms 3: "rounds (0: nobody was)". */
    private static void runsInNoRound() {
        DebtFronts x = Check.townOf("law 10 0;person 0 0 open;person 0 0 hedge;owes 0 1 9;owes 1 0 99;");
        for (int what = 0; what <= 2; what++) {
            check.due("nobody, " + what, x.run(1, what), 0);
        }
        x.paint(0, 1);
        check.due("0 is called, and by him 1", x.run(1, 0), 2);
        x = Check.townOf("law 10 0;person 0 0 open;");
        x.paint(0, 9);
        check.due("one who owes nothing: a round", x.run(9, 0), 1);
        check.due("he is not SHORT", x.run(9, 1), 0);
        check.due("he was CALLED", x.run(9, 2), 1);
    }

    /** Terms 3: "he is CALLED from the next round on. It ends with the round behind which nobody is newly CALLED". */
    private static void runsInSevenRounds() {
        for (int chain = 1; chain <= 7; chain++) {
            StringBuilder text = new StringBuilder("law 1 0;person 0 0 open;" + "person 0 0 hedge;".repeat(6));
            for (int p = 0; p + 1 < chain; p++) {
                text.append("owes ").append(p).append(' ').append(p + 1).append(" 1;");
            }
            DebtFronts x = Check.townOf(text.toString());
            x.paint(0, 9);
            check.due("rounds of a chain of " + chain, x.run(9, 0), chain);
            check.due("SHORT", x.run(9, 1), (1 << chain - 1) - 1);
            check.due("CALLED", x.run(9, 2), (1 << chain) - 1);
        }
        // the other way round: who is called stands ahead, and waits for the next round all the same
        DebtFronts x = Check.townOf("law 1 0;" + "person 0 0 hedge;".repeat(6) + NOTHING
                + "owes 6 5 1;owes 5 4 1;owes 4 3 1;owes 3 2 1;owes 2 1 1;owes 1 0 1;");
        check.due("downwards", x.run(1, 0), 7);
        check.due("all but 0", x.run(1, 1), 126);
    }

    /** Terms 3: "who owes something then is SHORT (as long as he does)". */
    private static void runsShortAsLongAsOneIs() {
        // 0 calls 2, who calls 1, who pays 0 in round 3, behind the turn of 0
        DebtFronts x = Check.townOf("law 1 0;person 0 0 open;person 5 0 hedge;person 0 0 hedge;owes 0 2 5;owes 2 1 5;owes 1 0 5;");
        check.due("rounds", x.run(5, 0), 3);
        check.due("0 was called first, then 2, then 1", x.run(5, 2), 7);
        check.due("behind round 3 0 and 2 owe yet", x.run(5, 1), 5);
        // 1 pays 0 in the last round, behind his turn; then one round is more, since others are called in it
        x = Check.townOf("law 1 0;person 0 0 open;person 9 0 hedge;person 0 0 hedge;person 0 0 open;"
                + "owes 0 1 5;owes 1 0 9;owes 3 2 9;owes 2 3 1;");
        check.due("rounds", x.run(5, 0), 2);
        check.due("0 owes yet, 2 and 3, too", x.run(5, 1), 1 | 4 | 8);
        x = Check.townOf("law 1 0;person 0 0 open;person 9 0 hedge;person 0 0 open;person 0 0 hedge;person 0 0 hedge;"
                + "owes 0 1 5;owes 1 0 9;owes 2 3 9;owes 3 4 9;");
        check.due("one round more", x.run(5, 0), 3);
        check.due("0 has paid in it", x.run(5, 1), 4 | 8);
        check.due("and stays CALLED", x.run(5, 2), 31);
        // just what he owes
        x = Check.townOf("law 1 0;person 5 0 open;person 0 0 open;owes 0 1 5;");
        check.due("has just so much", x.run(5, 1), 0);
        x.loan(1, 0, 1);
        check.due("has one less", x.run(5, 1), 1);
    }

    /** Terms 3: "whose front LOOKS less than their SHADE"; promise 21: "STATE: no TOWN". */
    private static void cheatsLookLess() {
        noTown.refuses("no TOWN", Check.STATE, DebtFronts::cheats);
        for (int v = 0; v <= 9; v++) {
            DebtFronts x = Check.townOf("law 1 0;" + NOTHING.repeat(6) + "person 0 0 hedge;owes 0 6 5;owes 6 0 9;");
            x.paint(0, v);
            check.due("PAINTED " + v, x.cheats(), v < 5 ? 1 : 0);
            x.paint(6, v);
            check.due("behind a hedge, too", x.cheats(), (v < 5 ? 1 : 0) | (v < 9 ? 64 : 0));
            x.paint(3, v);
            check.due("a white one cannot", x.cheats(), (v < 5 ? 1 : 0) | (v < 9 ? 64 : 0));
        }
        full.keeps("0 looks 1 of 9", 1, DebtFronts::cheats);
    }

    /** Promise 22: "WALK (a no more than b); NONE. BAD." */
    private static void walksAreOfHouses() {
        int[] nobody = {-1, 4, LEAST, MOST};
        for (int none : nobody) {
            full.refuses("from " + none, Check.BAD, y -> y.walk(none, 3));
            full.refuses("to " + none, Check.BAD, y -> y.walk(0, none));
            full.refuses("from and to " + none, Check.BAD, y -> y.walk(none, none));
        }
        full.refuses("a above b", Check.BAD, y -> y.walk(1, 0));
        full.refuses("a above b, at the end", Check.BAD, y -> y.walk(3, 2));
        noTown.refuses("no TOWN", Check.BAD, y -> y.walk(0, 0));
        full.keeps("one house", 0, y -> y.walk(0, 0));
        full.keeps("the last house", 3, y -> y.walk(3, 3));
        full.keeps("all", 3, y -> y.walk(0, 3));
        full.keeps("hidden ones alone", Check.NONE, y -> y.walk(1, 2));
        full.keeps("one hidden house", Check.NONE, y -> y.walk(1, 1));
    }

    /** Terms 3: "from house a to house b", both among them. */
    private static void walksFromTheFirstToTheLast() {
        // shades 3 2 1 0 1 2 3
        DebtFronts x = Check.townOf("law 1 0;" + NOTHING.repeat(7) + "owes 0 3 3;owes 1 3 2;owes 2 3 1;owes 4 3 1;owes 5 3 2;owes 6 3 3;");
        for (int a = 0; a < 7; a++) {
            for (int b = a; b < 7; b++) {
                int due = b <= 3 ? b : Math.max(a, 3);
                check.due("walk " + a + " " + b, x.walk(a, b), due);
            }
        }
        x.hedge(3, 1);
        check.due("of two alike the first", x.walk(0, 6), 2);
        check.due("behind it", x.walk(3, 6), 4);
        check.due("hidden", x.walk(3, 3), Check.NONE);
    }

    /** Terms 3: "LOOKS least, of several the first". */
    private static void walksToTheFirstOfSeveral() {
        DebtFronts x = Check.townOf("law 1 0;" + NOTHING.repeat(7));
        for (int a = 0; a < 7; a++) {
            check.due("the first", x.walk(a, 6), a);
        }
        for (int p = 0; p < 7; p++) {
            x.paint(p, 9);
        }
        check.due("all look 9", x.walk(0, 6), 0);
        x.paint(4, 8);
        x.paint(6, 8);
        check.due("the first of two", x.walk(0, 6), 4);
        x.hedge(4, 1);
        check.due("the first that is not HIDDEN", x.walk(0, 6), 6);
        check.due("aside of both", x.walk(0, 5), 0);
    }

    /** Promise 23: "An IMAGE (0, 1) .. BAD"; promise 24: "BAD". */
    private static void imagesAre0And1() {
        int[] none = {-1, 2, LEAST, MOST};
        for (int k : none) {
            full.refuses("image " + k, Check.BAD, y -> y.image(k));
            full.refuses("restore " + k, Check.BAD, y -> y.restore(k));
            noTown.refuses("image, BAD ahead of STATE " + k, Check.BAD, y -> y.image(k));
            noTown.refuses("restore, BAD ahead of STATE " + k, Check.BAD, y -> y.restore(k));
        }
        full.changes("image 0", 1, y -> y.image(0));
        full.changes("image 1", 1, y -> y.image(1));
    }

    /** Promise 23: "STATE: no TOWN"; promise 24: "STATE: none was kept". */
    private static void imagesNeedATown() {
        for (int k = 0; k <= 1; k++) {
            int number = k;
            noTown.refuses("image " + k, Check.STATE, y -> y.image(number));
            noTown.refuses("restore " + k, Check.STATE, y -> y.restore(number));
        }
        full.refuses("none was kept in 0", Check.STATE, y -> y.restore(0));
        DebtFronts x = Check.townOf("law 1 0;person 4 0 open;");
        check.due("none at first", x.restore(0), Check.STATE);
        check.due("image", x.image(0), 1);
        check.due("the other has none", x.restore(1), Check.STATE);
        check.due("restore", x.restore(0), 1);
    }

    /** Promise 24: "The TOWN is as an IMAGE kept it". */
    private static void restoresWhatWasKept() {
        Twins kept = new Twins(check, y -> {
            Worlds.full(y);
            y.image(0);
            y.restore(0);
        });
        kept.keeps("a quarter between", 1, y -> {
            y.quarter(3);
            return y.restore(0);
        });
        kept.keeps("acts between", 1, y -> {
            y.loan(3, 1, 9);
            y.paint(1, 9);
            y.hedge(0, 1);
            y.pay(0, 1, 2);
            y.undo();
            return y.restore(0);
        });
        kept.keeps("restored twice", 1, y -> {
            y.restore(0);
            return y.restore(0);
        });
        kept.keeps("another image between", 1, y -> {
            y.restore(1);
            return y.restore(0);
        });
        DebtFronts x = Check.townOf("law 7 20;person 3 2 hedge;person 9 0 open;owes 0 1 70;");
        x.image(1);
        check.due("another TOWN between", Check.read(x, "law 1 0;" + NOTHING.repeat(7) + "owes 6 0 9;"), 7);
        check.due("restored", x.restore(1), 1);
        check.due("two people", x.count(1), 2);
        check.due("its UNIT", x.person(0, 3), 9);
        check.due("its hedge", x.person(0, 5), 1);
        check.due("its debts", x.count(2), 1);
        x.quarter(0);
        check.due("its RATE and its INCOME", x.person(0, 11), 65 + 13);
        x.image(1);
        x.quarter(0);
        x.restore(1);
        check.due("kept anew", x.count(3), 1);
    }

    /** Promise 24: "(no ACT can be undone then)"; an image itself leaves them. */
    private static void restoresNoActs() {
        DebtFronts x = new DebtFronts();
        Worlds.full(x);
        check.due("acts", x.count(4), 6);
        x.image(0);
        check.due("an image leaves them", x.count(4), 6);
        check.due("undone", x.undo(), 5);
        check.due("restore", x.restore(0), 1);
        check.due("none", x.count(4), 0);
        check.due("none can be undone", x.undo(), Check.STATE);
        check.due("a new one", x.paint(0, 5), 1);
        check.due("it can", x.undo(), 0);
        check.due("as it was kept", x.person(0, 4), 1);
        x.undo();
        for (int i = 0; i < 30; i++) {
            x.paint(0, i % 10);
        }
        check.due("24 again", x.count(4), 24);
        x.restore(0);
        check.due("none again", x.undo(), Check.STATE);
        for (int i = 0; i < 3; i++) {
            x.paint(0, 9);
        }
        check.due("three new ones", x.undo(), 2);
    }

    /** Terms 3: "FORETOLD (nothing changes)". */
    private static void nothingChangesByForetelling() {
        full.keeps("all of it", 0, y -> {
            for (int t = 1; t <= 9; t++) {
                y.run(t, t % 3);
            }
            for (int k = 0; k <= 7; k++) {
                y.coin(k);
                y.clear(100 * k);
            }
            y.hiding(0);
            y.hiding(1);
            y.cheats();
            y.walk(0, 3);
            return 0;
        });
    }
}
