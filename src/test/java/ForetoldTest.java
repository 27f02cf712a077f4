/** Promises 17 to 24: hiding, clear, coin, run, cheats, walk, image, restore. */
final class ForetoldTest {
    private static final Check check = new Check();

    public static void main(String[] args) {
        refusesWithoutTown();
        hides();
        clears();
        runs();
        runsByWhatIsSeen();
        cheats();
        walks();
        keepsImages();
        check.end();
    }

    private static void refusesWithoutTown() {
        DebtFronts x = new DebtFronts();
        check.due("hiding", x.hiding(2), Check.STATE);
        check.due("clear", x.clear(-1), Check.STATE);
        check.due("coin", x.coin(8), Check.STATE);
        check.due("run", x.run(0, 3), Check.STATE);
        check.due("cheats", x.cheats(), Check.STATE);
        check.due("walk", x.walk(0, 0), Check.BAD);
        check.due("image", x.image(-1), Check.BAD);
        check.due("image", x.image(1), Check.STATE);
        check.due("restore", x.restore(-1), Check.BAD);
        check.due("restore", x.restore(1), Check.STATE);
    }

    private static void hides() {
        DebtFronts x = Check.townOf("law 10 0;person 0 0 open;person 0 0 open;person 0 0 open;person 0 0 open;"
                + "owes 0 1 25;owes 1 0 30;owes 2 3 12;owes 3 2 5;owes 0 2 100;owes 1 2 4;");
        check.due("people", x.hiding(0), 1 << 1 | 1 << 2);
        check.due("how much", x.hiding(1), 60);
        check.due("nothing changes", x.person(1, 10), 30);
        check.due("what below", x.hiding(-1), Check.BAD);
        check.due("what above", x.hiding(2), Check.BAD);
        x.paint(1, 0);
        check.due("paint does not matter", x.hiding(0), 6);
        check.due("nobody", Check.townOf("law 10 0;person 0 0 open;").hiding(1), 0);
    }

    private static void clears() {
        // OWED 10, 25, 9, 300, 30: needs 1, 6, none, 211, 1
        DebtFronts x = Check.townOf("law 10 0;person 0 0 open;person 0 0 open;person 0 0 open;person 0 0 open;"
                + "person 0 0 hedge;owes 0 1 10;owes 1 0 25;owes 2 0 9;owes 3 0 300;owes 4 0 30;");
        int[] sums = {0, 1, 2, 8, 219};
        for (int k = 0; k <= 4; k++) {
            check.due("coin " + k, x.coin(k), sums[k]);
            check.due("clear by just that, " + k, x.clear(sums[k]), k);
            check.due("clear by one less, " + k, x.clear(sums[k] - 1), k == 0 ? Check.BAD : k - 1);
        }
        check.due("coin 5", x.coin(5), Check.NONE);
        check.due("coin 7", x.coin(7), Check.NONE);
        check.due("coin 8", x.coin(8), Check.BAD);
        check.due("coin -1", x.coin(-1), Check.BAD);
        check.due("clear all", x.clear(999999), 4);
        check.due("clear too much", x.clear(1000000), Check.BAD);
    }

    private static void runs() {
        // 0 is seen, owes 1; 1 owes 2, 2 owes 3: each is called in his round
        DebtFronts x = Check.townOf("law 10 0;person 5 0 open;person 0 0 open;person 0 0 hedge;person 0 0 open;"
                + "owes 0 1 99;owes 1 2 19;owes 2 3 10;");
        check.due("rounds", x.run(9, 0), 4);
        check.due("short", x.run(9, 1), 7);
        check.due("called", x.run(9, 2), 15);
        check.due("rounds at 2", x.run(2, 0), 4);
        check.due("rounds at 1", x.run(1, 0), 3);
        check.due("called at 1", x.run(1, 2), 15);
        check.due("nothing changes", x.person(0, 0), 5);
        check.due("t 0", x.run(0, 0), Check.BAD);
        check.due("t 10", x.run(10, 0), Check.BAD);
        check.due("what 3", x.run(1, 3), Check.BAD);
        check.due("what -1", x.run(1, -1), Check.BAD);
        // who was SHORT pays later, out of what the others bring him
        DebtFronts y = Check.townOf("law 1 0;person 0 0 open;person 0 0 open;person 50 0 open;"
                + "owes 0 1 9;owes 1 0 8;owes 1 2 5;owes 2 0 9;");
        check.due("rounds", y.run(9, 0), 1);
        y.hedge(2, 1);
        check.due("rounds", y.run(9, 0), 2);
        check.due("short", y.run(9, 1), 2 | 1);
        check.due("called", y.run(9, 2), 7);
        DebtFronts z = Check.townOf("law 1 0;person 0 0 open;person 50 0 open;person 0 0 open;"
                + "owes 0 1 9;owes 1 2 9;owes 2 0 9;");
        check.due("all pay round about", z.run(9, 1), 1);
        z.hedge(1, 1);
        z.hedge(2, 1);
        check.due("rounds", z.run(9, 0), 2);
        check.due("short", z.run(9, 1), 1);
        check.due("called", z.run(9, 2), 3);
    }

    private static void runsByWhatIsSeen() {
        DebtFronts x = Check.townOf("law 10 0;person 99 0 open;person 0 0 hedge;person 0 0 open;"
                + "owes 0 1 40;owes 1 0 90;owes 2 0 10;");
        check.due("nobody", x.run(5, 0), 0);
        check.due("nobody short", x.run(5, 1), 0);
        check.due("nobody called", x.run(5, 2), 0);
        check.due("0 pays all", x.run(4, 0), 1);
        check.due("none is short", x.run(4, 1), 0);
        check.due("he was called", x.run(4, 2), 1);
        x.paint(2, 9);
        check.due("2 looks so", x.run(9, 2), 5);
        check.due("2 is short", x.run(9, 1), 4);
        check.due("two rounds", x.run(9, 0), 2);
        x.hedge(2, 1);
        check.due("hidden", x.run(9, 0), 0);
        x.paint(0, 3);
        check.due("painted paler", x.run(4, 0), 0);
        x.paint(1, 9);
        x.hedge(1, 0);
        check.due("1 is seen now; he calls 0", x.run(9, 2), 3);
    }

    private static void cheats() {
        DebtFronts x = Check.townOf("law 10 0;person 0 0 open;person 0 0 hedge;owes 0 1 40;owes 1 0 50;");
        check.due("nobody", x.cheats(), 0);
        x.paint(0, 4);
        check.due("as it is", x.cheats(), 0);
        x.paint(0, 3);
        check.due("paler", x.cheats(), 1);
        x.paint(1, 0);
        check.due("behind a hedge, too", x.cheats(), 3);
        x.paint(0, 9);
        check.due("darker", x.cheats(), 2);
        x.undo();
        check.due("undone", x.cheats(), 3);
    }

    private static void walks() {
        DebtFronts x = Check.townOf("law 10 0;person 0 0 open;person 0 0 open;person 0 0 open;person 0 0 hedge;"
                + "owes 0 1 40;owes 1 0 20;owes 2 0 20;");
        check.due("all", x.walk(0, 3), 1);
        check.due("from 2", x.walk(2, 3), 2);
        check.due("one", x.walk(0, 0), 0);
        check.due("hidden", x.walk(3, 3), Check.NONE);
        x.paint(2, 1);
        check.due("as it looks", x.walk(0, 3), 2);
        x.paint(0, 9);
        check.due("the darkest alone", x.walk(0, 0), 0);
        check.due("a above b", x.walk(1, 0), Check.BAD);
        check.due("nobody a", x.walk(-1, 0), Check.BAD);
        check.due("nobody b", x.walk(0, 4), Check.BAD);
    }

    private static void keepsImages() {
        DebtFronts x = Check.townOf("law 10 20;person 100 7 open;person 0 0 hedge;owes 0 1 40;owes 1 0 20;");
        x.paint(0, 2);
        x.quarter(3);
        x.paint(1, 5);
        int[] seen = look(x, 2);
        check.due("image", x.image(1), 1);
        check.due("acts stay", x.count(4), 3);
        check.due("none in 0", x.restore(0), Check.STATE);
        check.due("2", x.image(2), Check.BAD);
        x.quarter(0);
        x.hedge(1, 0);
        x.pay(0, 1, 1);
        x.image(0);
        Check.read(x, "law 1 0;person 9 9 open;");
        check.due("restore", x.restore(1), 1);
        check.due("as kept", java.util.Arrays.equals(look(x, 2), seen) ? 1 : 0, 1);
        check.due("no acts", x.count(4), 0);
        check.due("undo", x.undo(), Check.STATE);
        check.due("grows by its own law", x.quarter(0), 2);
        check.due("again", x.restore(1), 1);
        check.due("as kept, again", java.util.Arrays.equals(look(x, 2), seen) ? 1 : 0, 1);
        check.due("the other", x.restore(0), 1);
        check.due("its quarter", x.count(3), 2);
        check.due("its hedge", x.person(1, 5), 0);
        check.due("2", x.restore(2), Check.BAD);
    }

    private static int[] look(DebtFronts x, int people) {
        int[] seen = new int[people * 10 + 1];
        for (int p = 0; p < people; p++) {
            for (int what = 0; what < 10; what++) {
                seen[p * 10 + what] = x.person(p, what < 8 ? what : what + 2);
            }
        }
        seen[people * 10] = x.count(3);
        return seen;
    }
}
