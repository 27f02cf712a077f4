/** Every sentence about ROWS that names a bound: Terms 1, promises 2 to 5, and 30 as far as ROWS go. */
final class RowBoundsTest {
    private static final Check check = new Check();
    private static final int MOST = Integer.MAX_VALUE;
    private static final int LEAST = Integer.MIN_VALUE;
    private static final Twins full = new Twins(check, Worlds::full);

    public static void main(String[] args) {
        rowsAreMissingAtFirst();
        rowsGoFrom0To7();
        lanesGoFrom0To2();
        itemsGoFrom0To40();
        itemsAre0AtFirst();
        aRowComesInPlaceOfWhatIsThere();
        rowIsBadAheadOfSize();
        setsPlaces();
        setsTheLowestBits();
        keepsWhatSetAnswers();
        setIsBadAheadOfNullAheadOfPlace();
        copiesUpToTheEnds();
        copiesBeyondNoEnd();
        copiesNoneAtTheEnds();
        copiesAsTheyWereAhead();
        copiesWithinOneLaneAlone();
        copyFindsNullAheadOfStoreAheadOfPlace();
        dropsWhatIsThere();
        dropsNothingElse();
        statusIsOfTheLatestCallWithARow();
        check.end();
    }

    /** Terms 1: "ROWS 0 .. 7 are missing (at first)". */
    private static void rowsAreMissingAtFirst() {
        for (int row = 0; row <= 7; row++) {
            DebtFronts x = new DebtFronts();
            check.due("set of row " + row, x.set(row, 0, 0), Check.NULL);
            check.due("copy from row " + row, x.copy(row, 0, row, 0, 0), Check.NULL);
            check.due("drop of row " + row, x.drop(row), Check.NULL);
            check.due("fits of row " + row, x.fits(row, 0, 0), Check.NULL);
            check.due("count", x.count(0), 0);
        }
    }

    /** Promise 2: "BAD: ROW". */
    private static void rowsGoFrom0To7() {
        DebtFronts x = new DebtFronts();
        for (int row = 0; row <= 7; row++) {
            check.due("row " + row, x.row(row, 0, 1), 1);
            check.due("count", x.count(0), row + 1);
        }
        int[] none = {-1, 8, LEAST, MOST};
        for (int row : none) {
            full.refuses("row " + row, Check.BAD, y -> y.row(row, 0, 1));
            full.refuses("set of row " + row, Check.BAD, y -> y.set(row, 0, 1));
            full.refuses("copy from row " + row, Check.BAD, y -> y.copy(row, 0, 0, 0, 1));
            full.refuses("copy to row " + row, Check.BAD, y -> y.copy(0, 0, row, 0, 1));
            full.refuses("drop of row " + row, Check.BAD, y -> y.drop(row));
        }
    }

    /** Promise 2: "BAD: .. LANE". */
    private static void lanesGoFrom0To2() {
        int[] ofLane = {-17, -4369, 0x7FFFEEEF};
        for (int lane = 0; lane <= 2; lane++) {
            DebtFronts x = new DebtFronts();
            check.due("lane " + lane, x.row(7, lane, 40), 40);
            check.due("its bits", x.set(7, 39, 0x7FFFEEEF), ofLane[lane]);
        }
        int[] none = {-1, 3, LEAST, MOST};
        for (int lane : none) {
            full.refuses("lane " + lane, Check.BAD, y -> y.row(0, lane, 1));
            full.refuses("lane " + lane + " where none is", Check.BAD, y -> y.row(7, lane, 1));
        }
    }

    /** Promise 2: "n above 40; SIZE", which Terms call "fewer than none". */
    private static void itemsGoFrom0To40() {
        DebtFronts x = new DebtFronts();
        check.due("none", x.row(0, 0, 0), 0);
        check.due("no place in it", x.set(0, 0, 0), Check.PLACE);
        check.due("one", x.row(1, 0, 1), 1);
        check.due("its place", x.set(1, 0, 5), 5);
        check.due("no other one", x.set(1, 1, 5), Check.PLACE);
        check.due("39", x.row(2, 1, 39), 39);
        check.due("no place 39", x.set(2, 39, 5), Check.PLACE);
        check.due("40", x.row(3, 2, 40), 40);
        check.due("place 39", x.set(3, 39, 5), 5);
        check.due("no place 40", x.set(3, 40, 5), Check.PLACE);
        full.refuses("41", Check.BAD, y -> y.row(0, 0, 41));
        full.refuses("41 where none is", Check.BAD, y -> y.row(7, 0, 41));
        full.refuses("the most", Check.BAD, y -> y.row(0, 0, MOST));
        full.refuses("-1", Check.SIZE, y -> y.row(0, 0, -1));
        full.refuses("-1 where none is", Check.SIZE, y -> y.row(7, 2, -1));
        full.refuses("the least", Check.SIZE, y -> y.row(0, 0, LEAST));
    }

    /** Terms 1: "0 to 40 ITEMS, 0 at first"; six zeros fit one way by 0 UNITS, and any other six none, or are BAD. */
    private static void itemsAre0AtFirst() {
        for (int lane = 0; lane <= 2; lane++) {
            DebtFronts x = new DebtFronts();
            x.row(0, lane, 40);
            allAre0(x, "at first");
            setAll(x, lane);
            x.row(0, lane, 40);
            allAre0(x, "in place of others");
            setAll(x, lane);
            x.drop(0);
            x.row(0, lane, 40);
            allAre0(x, "behind a drop");
        }
    }

    private static void setAll(DebtFronts x, int lane) {
        for (int i = 0; i < 40; i++) {
            check.due("set", x.set(0, i, 1 + lane), 1 + lane);
        }
    }

    private static void allAre0(DebtFronts x, String when) {
        for (int i = 0; i <= 34; i++) {
            check.due(when + " from " + i, x.fits(0, i, 0), 1);
        }
    }

    /** Promise 2: "in place of what is there". */
    private static void aRowComesInPlaceOfWhatIsThere() {
        DebtFronts x = new DebtFronts();
        Check.fill(x, 0, 2, 70000, 2, 3);
        check.due("fewer, of another lane", x.row(0, 1, 2), 2);
        check.due("it is one row", x.count(0), 1);
        check.due("no place 2", x.set(0, 2, 0), Check.PLACE);
        check.due("shorts", x.set(0, 0, 70000), 4464);
        check.due("more", x.row(0, 0, 5), 5);
        check.due("place 4", x.set(0, 4, 300), 44);
        check.due("how many it had", x.drop(0), 5);
    }

    /** Terms: refusals are "the first of these that fits": BAD is ahead of the findings. */
    private static void rowIsBadAheadOfSize() {
        full.refuses("row and SIZE", Check.BAD, y -> y.row(8, 0, -1));
        full.refuses("row below and SIZE", Check.BAD, y -> y.row(-1, 0, -1));
        full.refuses("lane and SIZE", Check.BAD, y -> y.row(0, 3, -1));
        full.refuses("lane below and SIZE", Check.BAD, y -> y.row(0, -1, -1));
    }

    /** Promise 3: "PLACE", which Terms call "no such place of a ROW". */
    private static void setsPlaces() {
        for (int n = 1; n <= 40; n += 13) {
            DebtFronts x = new DebtFronts();
            x.row(6, 2, n);
            check.due("first of " + n, x.set(6, 0, 77), 77);
            check.due("last of " + n, x.set(6, n - 1, -77), -77);
            check.due("behind the last of " + n, x.set(6, n, 1), Check.PLACE);
            check.due("ahead of the first of " + n, x.set(6, -1, 1), Check.PLACE);
        }
        int[] none = {-1, 12, LEAST, MOST};
        for (int i : none) {
            full.refuses("place " + i, Check.PLACE, y -> y.set(0, i, 1));
        }
        full.refuses("place 0 of none", Check.PLACE, y -> y.set(3, 0, 1));
        full.refuses("a missing row", Check.NULL, y -> y.set(7, 0, 1));
    }

    /** Promise 3: "its lowest bits, as many as the LANE has": beyond its most it wraps around. */
    private static void setsTheLowestBits() {
        DebtFronts x = new DebtFronts();
        for (int lane = 0; lane <= 2; lane++) {
            x.row(lane, lane, 1);
        }
        int[] values = {0, 1, -1, 127, 128, 129, 255, 256, 257, -128, -129, -256, 32767, 32768, 65535, 65536, -32768,
            -32769, 70000, MOST, LEAST, LEAST + 1, 0x12345678, 0x7FFF8000, 0x7F80};
        for (int v : values) {
            check.due("byte " + v, x.set(0, 0, v), (byte) v);
            check.due("short " + v, x.set(1, 0, v), (short) v);
            check.due("int " + v, x.set(2, 0, v), v);
        }
        check.due("byte 127", x.set(0, 0, 127), 127);
        check.due("byte 128", x.set(0, 0, 128), -128);
        check.due("byte -129", x.set(0, 0, -129), 127);
        check.due("byte 256", x.set(0, 0, 256), 0);
        check.due("short 32767", x.set(1, 0, 32767), 32767);
        check.due("short 32768", x.set(1, 0, 32768), -32768);
        check.due("short -32769", x.set(1, 0, -32769), 32767);
        check.due("short 65536", x.set(1, 0, 65536), 0);
    }

    /** Promise 3: "what it is then": the ITEM is so, not only the answer. */
    private static void keepsWhatSetAnswers() {
        DebtFronts x = new DebtFronts();
        // SHADES 2 0 0, NETS -2 1 1, each by higher bits that the LANE has not
        Check.fill(x, 0, 0, 258, 256, -256, 254, 257, 513);
        check.due("bytes", x.fits(0, 0, 1), 1);
        Check.fill(x, 1, 1, 65538, 65536, -65536, 65534, 65537, 131073);
        check.due("shorts", x.fits(1, 0, 1), 1);
        Check.fill(x, 2, 2, 258, 256, -256, 254, 257, 513);
        check.due("ints keep them", x.fits(2, 0, 1), Check.BAD);
    }

    private static void setIsBadAheadOfNullAheadOfPlace() {
        full.refuses("no row, no place", Check.BAD, y -> y.set(8, -1, 1));
        full.refuses("missing, no place", Check.NULL, y -> y.set(7, -1, 1));
        full.refuses("missing, no place above", Check.NULL, y -> y.set(6, MOST, 1));
    }

    /** Promise 4: from the first place and up to the last. */
    private static void copiesUpToTheEnds() {
        DebtFronts x = new DebtFronts();
        x.row(0, 2, 40);
        x.row(1, 2, 40);
        check.due("all 40", x.copy(0, 0, 1, 0, 40), 40);
        check.due("the last to the first", x.copy(0, 39, 1, 0, 1), 1);
        check.due("the first to the last", x.copy(0, 0, 1, 39, 1), 1);
        Check.fill(x, 2, 2, 9, 9, 1, 1, 1, 0, 0, 0);
        Check.fill(x, 3, 2, 0, 0, 0, 0, 0, 0, 7, 7);
        check.due("the last six to the first", x.copy(2, 2, 3, 0, 6), 6);
        check.due("they came", x.fits(3, 0, 1), 2);
        check.due("what is behind stays", x.copy(3, 6, 2, 0, 2), 2);
        check.due("7 and 7", x.fits(2, 0, 1), 0);
        Check.fill(x, 3, 2, 0, 0, 0, 0, 0, 0, 7, 7);
        check.due("the last six to the last", x.copy(2, 2, 3, 2, 6), 6);
        check.due("they came to their place", x.fits(3, 2, 1), 2);
    }

    /** Promise 4: "PLACE (i, j, n below 0, or beyond an end)"; row 0 has 12, row 4 has 6 bytes. */
    private static void copiesBeyondNoEnd() {
        full.refuses("i -1", Check.PLACE, y -> y.copy(0, -1, 4, 0, 1));
        full.refuses("j -1", Check.PLACE, y -> y.copy(0, 0, 4, -1, 1));
        full.refuses("n -1", Check.PLACE, y -> y.copy(0, 0, 4, 0, -1));
        full.refuses("n -1 at the ends", Check.PLACE, y -> y.copy(0, 12, 4, 6, -1));
        full.refuses("i -1, n 0", Check.PLACE, y -> y.copy(0, -1, 4, 0, 0));
        full.refuses("j -1, n 0", Check.PLACE, y -> y.copy(0, 0, 4, -1, 0));
        full.refuses("one beyond the end of a", Check.PLACE, y -> y.copy(4, 1, 0, 0, 6));
        full.refuses("n beyond the end of a", Check.PLACE, y -> y.copy(4, 0, 0, 0, 7));
        full.refuses("one beyond the end of b", Check.PLACE, y -> y.copy(0, 0, 4, 1, 6));
        full.refuses("n beyond the end of b", Check.PLACE, y -> y.copy(0, 0, 4, 0, 7));
        full.refuses("i at the end", Check.PLACE, y -> y.copy(0, 12, 4, 0, 1));
        full.refuses("j at the end", Check.PLACE, y -> y.copy(0, 0, 4, 6, 1));
        full.refuses("n most", Check.PLACE, y -> y.copy(0, 0, 4, 0, MOST));
        full.refuses("n most, i and j 1", Check.PLACE, y -> y.copy(0, 1, 4, 1, MOST));
        full.refuses("i most", Check.PLACE, y -> y.copy(0, MOST, 4, 0, 1));
        full.refuses("j most", Check.PLACE, y -> y.copy(0, 0, 4, MOST, 1));
        full.refuses("all most", Check.PLACE, y -> y.copy(0, MOST, 4, MOST, MOST));
        full.refuses("i least", Check.PLACE, y -> y.copy(0, LEAST, 4, 0, 1));
        full.refuses("j least", Check.PLACE, y -> y.copy(0, 0, 4, LEAST, 1));
        full.refuses("n least", Check.PLACE, y -> y.copy(0, 0, 4, 0, LEAST));
        full.refuses("i and n least", Check.PLACE, y -> y.copy(0, LEAST, 4, 0, LEAST));
        full.refuses("a row into itself beyond its end", Check.PLACE, y -> y.copy(0, 0, 0, 7, 6));
    }

    /** Promise 4: no ITEMS are "beyond an end" from the end on, but are one place further. */
    private static void copiesNoneAtTheEnds() {
        full.keepsAllButStatus("none at the beginnings", 0, y -> y.copy(0, 0, 4, 0, 0));
        full.keepsAllButStatus("none at the ends", 0, y -> y.copy(0, 12, 4, 6, 0));
        full.keepsAllButStatus("none of a row without ITEMS", 0, y -> y.copy(3, 0, 3, 0, 0));
        full.refuses("none beyond the end of a", Check.PLACE, y -> y.copy(0, 13, 4, 0, 0));
        full.refuses("none beyond the end of b", Check.PLACE, y -> y.copy(0, 0, 4, 7, 0));
        full.refuses("one of a row without ITEMS", Check.PLACE, y -> y.copy(3, 0, 2, 0, 1));
        full.refuses("one to a row without ITEMS", Check.PLACE, y -> y.copy(2, 0, 3, 0, 1));
    }

    /** Promise 4: "as they were ahead", where both are of one ROW and meet. */
    private static void copiesAsTheyWereAhead() {
        for (int lane = 0; lane <= 2; lane++) {
            DebtFronts x = new DebtFronts();
            for (int by = 1; by <= 5; by++) {
                Check.fill(x, 0, lane, 2, 0, 0, -2, 1, 1, 5, 5, 5, 5, 5);
                check.due("up by " + by, x.copy(0, 0, 0, by, 6), 6);
                check.due("they are there", x.fits(0, by, 1), 1);
                int[] items = {5, 5, 5, 5, 5, 5, 5, 5, 5, 5, 5};
                System.arraycopy(new int[] {2, 0, 0, -2, 1, 1}, 0, items, by, 6);
                Check.fill(x, 0, lane, items);
                check.due("down by " + by, x.copy(0, by, 0, 0, 6), 6);
                check.due("they are here", x.fits(0, 0, 1), 1);
            }
            check.due("onto themselves", x.copy(0, 0, 0, 0, 11), 11);
            check.due("they are here yet", x.fits(0, 0, 1), 1);
        }
    }

    /** Terms: "STORE (ROWS of two LANES)". */
    private static void copiesWithinOneLaneAlone() {
        for (int a = 0; a <= 2; a++) {
            for (int b = 0; b <= 2; b++) {
                DebtFronts x = new DebtFronts();
                x.row(0, a, 3);
                x.row(1, b, 3);
                check.due("lane " + a + " to lane " + b, x.copy(0, 0, 1, 0, 3), a == b ? 3 : Check.STORE);
                check.due("status", x.status(), a == b ? 0 : 5);
            }
        }
        full.refuses("bytes to shorts", Check.STORE, y -> y.copy(0, 0, 1, 0, 1));
        full.refuses("shorts to ints", Check.STORE, y -> y.copy(1, 0, 2, 0, 1));
        full.refuses("ints to bytes, none", Check.STORE, y -> y.copy(2, 0, 0, 0, 0));
    }

    /** Promise 4: "BAD: ROWS; NULL; STORE; PLACE". */
    private static void copyFindsNullAheadOfStoreAheadOfPlace() {
        full.refuses("BAD a, missing b", Check.BAD, y -> y.copy(8, 0, 7, 0, 1));
        full.refuses("missing a, BAD b", Check.BAD, y -> y.copy(7, 0, 8, 0, 1));
        full.refuses("missing a, no place", Check.NULL, y -> y.copy(7, -1, 0, 0, 1));
        full.refuses("missing b, no place", Check.NULL, y -> y.copy(0, -1, 7, 0, 1));
        full.refuses("both missing", Check.NULL, y -> y.copy(6, 0, 7, 0, 0));
        full.refuses("two lanes, no place i", Check.STORE, y -> y.copy(0, -1, 1, 0, 1));
        full.refuses("two lanes, no place j", Check.STORE, y -> y.copy(0, 0, 1, 99, 1));
        full.refuses("two lanes, n below 0", Check.STORE, y -> y.copy(0, 0, 1, 0, -1));
    }

    /** Promise 5: "how many ITEMS it had". */
    private static void dropsWhatIsThere() {
        for (int n = 0; n <= 40; n++) {
            DebtFronts x = new DebtFronts();
            x.row(n % 8, n % 3, n);
            check.due("drop " + n, x.drop(n % 8), n);
            check.due("count", x.count(0), 0);
            check.due("it is missing from now on", x.set(n % 8, 0, 0), Check.NULL);
            check.due("dropped again", x.drop(n % 8), Check.NULL);
        }
        full.refuses("missing", Check.NULL, y -> y.drop(7));
    }

    private static void dropsNothingElse() {
        DebtFronts x = new DebtFronts();
        for (int row = 0; row <= 7; row++) {
            x.row(row, row % 3, row + 1);
        }
        check.due("drop", x.drop(3), 4);
        check.due("count", x.count(0), 7);
        for (int row = 0; row <= 7; row++) {
            check.due("row " + row, x.drop(row), row == 3 ? Check.NULL : row + 1);
        }
    }

    /** Promise 30: "Of the latest call with a ROW .. that was not BAD, STATE, FULL". */
    private static void statusIsOfTheLatestCallWithARow() {
        DebtFronts x = new DebtFronts();
        check.due("there was none", x.status(), 0);
        x.row(8, 0, 0);
        x.set(-1, 0, 0);
        x.copy(8, 0, 0, 0, 0);
        x.drop(8);
        x.fits(8, 0, 0);
        check.due("there were BAD ones alone", x.status(), 0);
        x.row(0, 0, 6);
        x.row(1, 1, 6);
        int[] due = {1, 0, 2, 0, 5, 0, 4, 0, 1, 0};
        for (int k = 0; k < 10; k++) {
            switch (k) {
                case 0 -> x.set(7, 0, 0);
                case 2 -> x.set(0, 6, 0);
                case 4 -> x.copy(0, 0, 1, 0, 0);
                case 6 -> x.row(0, 0, -1);
                case 8 -> x.drop(7);
                case 1 -> x.set(0, 5, 0);
                case 3 -> x.copy(0, 0, 0, 0, 6);
                case 5 -> x.fits(0, 0, 0);
                case 7 -> x.row(5, 0, 0);
                default -> x.drop(5);
            }
            check.due("behind call " + k, x.status(), due[k]);
            x.row(8, 0, -1);
            x.set(8, 0, 0);
            x.copy(0, 0, 8, 0, 0);
            x.drop(-1);
            x.fits(0, 0, 4);
            check.due("BAD ones leave it, " + k, x.status(), due[k]);
        }
    }
}
