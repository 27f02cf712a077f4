import java.util.Random;

/** Long runs of calls, ordinary and wild, on the class and on the model: the answers are the same, and nothing throws. */
final class ModelTest {
    private static final Check check = new Check();
    private static final int[] WILD = {Integer.MIN_VALUE, -1000000, -11, -2, -1, 7, 8, 9, 10, 16, 17, 41, 400, 999,
        1000, 99999, 100000, 999999, 1000000, Integer.MAX_VALUE};

    private final Random random;
    private final DebtFronts x = new DebtFronts();
    private final Model model = new Model();
    private final int wildness;
    private final int restfulness;

    private ModelTest(long seed) {
        random = new Random(seed);
        wildness = 2 + random.nextInt(30);
        restfulness = random.nextInt(4);
    }

    public static void main(String[] args) {
        int runs = args.length > 0 ? Integer.parseInt(args[0]) : 2000;
        for (int run = 0; run < runs; run++) {
            new ModelTest(run).goThrough(run);
        }
        check.end();
    }

    private void goThrough(int run) {
        int calls = 0;
        while (calls < 512) {
            int before = calls;
            calls += random.nextInt(40) == 0 || calls == 0 && random.nextInt(8) != 0 ? tellTown(run) : oneCall(run);
            if (calls == before) {
                throw new IllegalStateException();
            }
        }
    }

    private int n(int bound) {
        return random.nextInt(100) < wildness ? WILD[random.nextInt(WILD.length)] : random.nextInt(bound);
    }

    private int tellTown(int run) {
        String text = aTown();
        if (random.nextInt(3) == 0) {
            text = spoiled(text);
        }
        int fed = 0;
        for (int i = 0; i < text.length(); fed++) {
            int many = Math.min(text.length() - i, 1 + random.nextInt(8));
            if (random.nextBoolean()) {
                many = Math.min(text.length() - i, 8);
            }
            long w = random.nextLong();
            for (int k = 0; k < many; k++) {
                w = w << 8 | text.charAt(i + k);
            }
            due(run, "feed", x.feed(w, many), model.feed(w, many));
            i += many;
        }
        due(run, "town of " + text, x.town(), model.town());
        due(run, "fault of " + text, x.fault(), model.fault());
        return fed + 2;
    }

    private String aTown() {
        StringBuilder s = new StringBuilder();
        s.append("law ").append(1 + random.nextInt(20)).append(' ').append(random.nextInt(21)).append(';');
        int people = 1 + random.nextInt(random.nextInt(20) == 0 ? 8 : 7);
        for (int p = 0; p < people; p++) {
            s.append(random.nextInt(4) == 0 ? " \n" : "").append("person ");
            s.append(random.nextInt(3) == 0 ? 0 : random.nextInt(random.nextBoolean() ? 1000 : 60)).append(' ');
            s.append(random.nextInt(2) == 0 ? 0 : random.nextInt(100));
            s.append(random.nextInt(3) == 0 ? " hedge;" : " open;");
        }
        int debts = people < 2 ? 0 : random.nextInt(random.nextInt(20) == 0 ? 23 : 15);
        for (int d = 0; d < debts; d++) {
            int a = random.nextInt(people);
            int b = (a + 1 + random.nextInt(people - 1)) % people;
            s.append("owes ").append(a).append(' ').append(b).append(' ');
            s.append(1 + random.nextInt(random.nextInt(3) == 0 ? 999 : 60)).append(';');
        }
        return s.toString();
    }

    private String spoiled(String text) {
        String signs = " \n;;0123456789aolwpershdgn,AZ{`/:\u0000\u00ff\t";
        StringBuilder s = new StringBuilder(text);
        for (int k = 1 + random.nextInt(2); k > 0 && s.length() > 0; k--) {
            int at = random.nextInt(s.length());
            char c = signs.charAt(random.nextInt(signs.length()));
            switch (random.nextInt(5)) {
                case 0 -> s.insert(at, c);
                case 1 -> s.deleteCharAt(at);
                case 2 -> s.setCharAt(at, c);
                case 3 -> s.setLength(at);
                default -> s.insert(at, "person 1 1 open;");
            }
        }
        return s.toString();
    }

    private void due(int run, String call, int got, int want) {
        check.due("run " + run + ": " + call, got, want);
    }

    private int oneCall(int run) {
        int what = random.nextInt(31);
        if (what == 8 && random.nextInt(4) < restfulness) {
            what = 27;
        }
        int a = n(7);
        int b = n(7);
        switch (what) {
            case 0 -> aRow(run);
            case 1, 2, 3 -> rowCall(run, what);
            case 4 -> {
                int c = n(120);
                due(run, "loan", x.loan(a, b, c), model.loan(a, b, c));
            }
            case 5 -> {
                int c = random.nextBoolean() ? n(60) : x.person(a, 10 + b);
                due(run, "pay", x.pay(a, b, c), model.pay(a, b, c));
            }
            case 6 -> {
                int v = n(10);
                due(run, "paint", x.paint(a, v), model.paint(a, v));
            }
            case 7 -> {
                int is = n(2);
                due(run, "hedge", x.hedge(a, is), model.hedge(a, is));
            }
            case 8, 9 -> {
                int seed = random.nextInt(3) == 0 ? 0 : n(1000000);
                due(run, "quarter", x.quarter(seed), model.quarter(seed));
            }
            case 10 -> due(run, "undo", x.undo(), model.undo());
            case 11 -> fit(run);
            case 12 -> {
                int w = n(2);
                due(run, "hiding", x.hiding(w), model.hiding(w));
            }
            case 13 -> {
                int c = n(random.nextBoolean() ? 300 : 3000);
                due(run, "clear", x.clear(c), model.clear(c));
            }
            case 14 -> due(run, "coin", x.coin(a), model.coin(a));
            case 15, 16 -> {
                int t = n(10);
                for (int w = 0; w < 3; w++) {
                    due(run, "run " + w, x.run(t, w), model.run(t, w));
                }
                return 3;
            }
            case 17 -> due(run, "cheats", x.cheats(), model.cheats());
            case 18 -> due(run, "walk", x.walk(a, b), model.walk(a, b));
            case 19 -> {
                int k = n(2);
                due(run, "image", x.image(k), model.image(k));
            }
            case 20 -> {
                int k = n(2);
                due(run, "restore", x.restore(k), model.restore(k));
            }
            case 21 -> due(run, "kind", x.kind(a), model.kind(a));
            case 22 -> {
                int k = n(6);
                due(run, "as", x.as(a, k), model.as(a, k));
            }
            case 23, 24 -> {
                int w = n(2);
                due(run, "ask", x.ask(a, w), model.ask(a, w));
                int i = n(7);
                due(run, "trace", x.trace(i), model.trace(i));
                return 2;
            }
            case 25 -> {
                int c = n(7);
                due(run, "count", x.count(c), model.count(c));
            }
            case 26 -> due(run, "status", x.status(), model.status());
            case 27 -> {
                int w = n(17);
                due(run, "person", x.person(a, w), model.person(a, w));
            }
            case 28 -> due(run, "fault", x.fault(), model.fault());
            case 29 -> {
                int many = n(10);
                if (random.nextInt(20) == 0) {
                    due(run, "feed", x.feed(0, many), model.feed(0, many));
                } else {
                    due(run, "count 6", x.count(6), model.count(6));
                }
            }
            default -> {
                int end = x.count(1) * 8;
                for (int k = 0; k < end && k < 30; k++) {
                    due(run, "person", x.person(k / 8, k % 8), model.person(k / 8, k % 8));
                }
                return 1 + Math.min(end, 30);
            }
        }
        return 1;
    }

    private void aRow(int run) {
        int r = n(8);
        int lane = n(3);
        int many = n(12);
        due(run, "row", x.row(r, lane, many), model.row(r, lane, many));
    }

    private void rowCall(int run, int what) {
        int r = n(8);
        if (what == 1) {
            int i = n(10);
            int v = random.nextBoolean() ? n(10) : random.nextInt();
            due(run, "set", x.set(r, i, v), model.set(r, i, v));
        } else if (what == 2) {
            int i = n(6);
            int s = random.nextInt(3) == 0 ? r : n(8);
            int j = n(6);
            int many = n(6);
            due(run, "copy", x.copy(r, i, s, j, many), model.copy(r, i, s, j, many));
        } else if (random.nextInt(3) == 0) {
            due(run, "drop", x.drop(r), model.drop(r));
        } else {
            due(run, "status", x.status(), model.status());
        }
    }

    private void fit(int run) {
        int r = n(8);
        int i = n(5);
        int m = n(4);
        if (r >= 0 && r < 8 && random.nextInt(3) != 0) {
            int most = 1 + random.nextInt(4);
            int[] d = random.ints(6, 0, most).toArray();
            int[] by = {d[0] + d[1], d[2] + d[3], d[4] + d[5]};
            int[] to = {d[2] + d[4], d[0] + d[5], d[1] + d[3]};
            int lane = random.nextInt(3);
            int from = random.nextInt(3);
            due(run, "row", x.row(r, lane, from + 6), model.row(r, lane, from + 6));
            for (int k = 0; k < 6; k++) {
                int v = k < 3 ? by[k] : to[k - 3] - by[k - 3];
                due(run, "set", x.set(r, from + k, v), model.set(r, from + k, v));
            }
            i = from;
        }
        due(run, "fits", x.fits(r, i, m), model.fits(r, i, m));
    }
}
