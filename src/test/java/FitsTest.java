/** Promise 16: fits. */
final class FitsTest {
    private static final Check check = new Check();

    public static void main(String[] args) {
        refuses();
        agreesWithAllWays();
        readsEachLane();
        check.end();
    }

    private static void refuses() {
        DebtFronts x = new DebtFronts();
        check.due("no row", x.fits(8, 0, 0), Check.BAD);
        check.due("m below", x.fits(0, 0, -1), Check.BAD);
        check.due("m above, ahead of NULL", x.fits(0, 0, 4), Check.BAD);
        check.due("missing", x.fits(0, 0, 3), Check.NULL);
        x.row(0, 2, 7);
        check.due("i below", x.fits(0, -1, 3), Check.PLACE);
        check.due("i most", x.fits(0, 1, 3), 1);
        check.due("i beyond", x.fits(0, 2, 3), Check.PLACE);
        check.due("i far beyond", x.fits(0, Integer.MAX_VALUE, 3), Check.PLACE);
        int[] wrong = {10, -1, 10, 10, -10, 99};
        for (int k = 0; k < 6; k++) {
            x.row(0, 2, 6);
            x.set(0, k, wrong[k]);
            check.due("item " + k, x.fits(0, 0, 3), Check.BAD);
            check.due("PLACE ahead of item " + k, x.fits(0, 1, 3), Check.PLACE);
        }
        Check.fill(x, 0, 0, 9, 9, 9, 9, -9, 9);
        check.due("the edges", x.fits(0, 0, 3), 0);
        Check.fill(x, 0, 0, 0, 0, 0, -9, 9, -9);
        check.due("the other edges", x.fits(0, 0, 3), 0);
    }

    private static void agreesWithAllWays() {
        for (int m = 0; m <= 3; m++) {
            DebtFronts x = new DebtFronts();
            for (int probe = 0; probe < 40; probe++) {
                int[] d = new int[6];
                for (int k = 0; k < 6; k++) {
                    d[k] = (probe * (7 + 3 * k) + k * k + probe / 5) % (m + 1);
                }
                int[] told = shadesAndNets(d);
                if (probe % 7 == 6) {
                    told[3 + probe % 3]++;
                }
                if (told[3] < -9 || told[4] > 9 || told[5] > 9 || told[3] > 9 || told[4] < -9 || told[5] < -9) {
                    continue;
                }
                Check.fill(x, probe % 8, 2, told);
                check.due("m " + m + ", probe " + probe, x.fits(probe % 8, 0, m), waysOf(told, m));
            }
        }
    }

    private static int[] shadesAndNets(int[] d) {
        int[] by = {d[0] + d[1], d[2] + d[3], d[4] + d[5]};
        int[] to = {d[2] + d[4], d[0] + d[5], d[1] + d[3]};
        return new int[] {by[0], by[1], by[2], to[0] - by[0], to[1] - by[1], to[2] - by[2]};
    }

    private static int waysOf(int[] told, int m) {
        int all = (int) Math.pow(m + 1, 6);
        int ways = 0;
        for (int w = 0; w < all; w++) {
            int[] d = new int[6];
            int rest = w;
            for (int k = 0; k < 6; k++) {
                d[k] = rest % (m + 1);
                rest /= m + 1;
            }
            if (java.util.Arrays.equals(shadesAndNets(d), told)) {
                ways++;
            }
        }
        return ways;
    }

    private static void readsEachLane() {
        for (int lane = 0; lane <= 2; lane++) {
            DebtFronts x = Check.townOf("law 7 0;person 0 0 open;");
            Check.fill(x, 1, lane, 5, 3, 3, 3, 0, 0, 0, 4);
            check.due("lane " + lane, x.fits(1, 1, 3), 4);
            Check.fill(x, 1, lane, 2, 0, 0, -2, 1, 1);
            check.due("nets below 0, lane " + lane, x.fits(1, 0, 1), 1);
            check.due("more UNITS, lane " + lane, x.fits(1, 0, 3), 1);
        }
    }
}
