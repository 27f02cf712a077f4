import java.util.ArrayList;
import java.util.List;

/**
 * Two objects after the same calls, of which one is called once more: what both show then is held side by side.
 * No object is called more than 512 times, so each look begins with two new ones.
 */
final class Twins {
    /** The calls ahead. */
    interface Calls {
        void on(DebtFronts x);
    }

    /** The one call more. */
    interface Call {
        int on(DebtFronts x);
    }

    /** One way to see into an object; it may change the object, which is not used any more behind it. */
    private interface Look {
        void at(DebtFronts x, List<Integer> seen);
    }

    private static final int LOOKS = 6;

    private final Check check;
    private final Calls ahead;

    Twins(Check check, Calls ahead) {
        this.check = check;
        this.ahead = ahead;
    }

    /** The call answers so, and nothing is otherwise then but status(), which a finding sets. */
    void refuses(String what, int due, Call call) {
        DebtFronts x = made();
        int was = x.status();
        check.due(what, call.on(x), due);
        boolean isFinding = due <= Check.NULL && due >= Check.STORE;
        check.due(what + ": status()", x.status(), isFinding ? -1000010 - due : was);
        check.due(what + ": looks that see a change", looksThatDiffer(call), 0);
    }

    /** The call answers so, and nothing at all is otherwise then. */
    void keeps(String what, int due, Call call) {
        DebtFronts x = made();
        int was = x.status();
        check.due(what, call.on(x), due);
        check.due(what + ": status()", x.status(), was);
        check.due(what + ": looks that see a change", looksThatDiffer(call), 0);
    }

    /** The call answers so, status() is 0 then, and nothing else is otherwise. */
    void keepsAllButStatus(String what, int due, Call call) {
        DebtFronts x = made();
        check.due(what, call.on(x), due);
        check.due(what + ": status()", x.status(), 0);
        check.due(what + ": looks that see a change", looksThatDiffer(call), 0);
    }

    /** The call answers so, and something else is otherwise then. */
    void changes(String what, int due, Call call) {
        check.due(what, call.on(made()), due);
        check.isTrue(what + ": a look sees a change", looksThatDiffer(call) > 0);
    }

    private DebtFronts made() {
        DebtFronts x = new DebtFronts();
        ahead.on(x);
        return x;
    }

    private int looksThatDiffer(Call call) {
        int differ = 0;
        for (int number = 0; number < LOOKS; number++) {
            DebtFronts with = made();
            DebtFronts without = made();
            call.on(with);
            if (!seen(with, number).equals(seen(without, number))) {
                differ++;
            }
        }
        return differ;
    }

    private static List<Integer> seen(DebtFronts x, int number) {
        Look[] looks = {Twins::atPeople, Twins::atForetold, Twins::atActs, Twins::atImages, Twins::atRows, Twins::atTape};
        List<Integer> seen = new ArrayList<>();
        looks[number].at(x, seen);
        return seen;
    }

    private static void atPeople(DebtFronts x, List<Integer> seen) {
        for (int p = 0; p < 7; p++) {
            for (int what = 0; what <= 16; what++) {
                seen.add(x.person(p, what));
            }
        }
        for (int what = 0; what <= 6; what++) {
            seen.add(x.count(what));
        }
        for (int i = 0; i <= 16; i++) {
            seen.add(x.trace(i));
        }
        seen.add(x.fault());
    }

    private static void atForetold(DebtFronts x, List<Integer> seen) {
        seen.add(x.hiding(0));
        seen.add(x.hiding(1));
        seen.add(x.cheats());
        seen.add(x.walk(0, Math.max(x.count(1) - 1, 0)));
        for (int k = 0; k <= 7; k++) {
            seen.add(x.coin(k));
            seen.add(x.kind(k));
        }
        for (int t = 1; t <= 9; t++) {
            for (int what = 0; what <= 2; what++) {
                seen.add(x.run(t, what));
            }
        }
        // by the law alone
        seen.add(x.quarter(0));
        for (int p = 0; p < 7; p++) {
            seen.add(x.person(p, 2));
            seen.add(x.person(p, 3));
        }
    }

    private static void atActs(DebtFronts x, List<Integer> seen) {
        for (int act = 0; act <= 25; act++) {
            seen.add(x.undo());
            seen.add(x.count(2));
            seen.add(x.count(3));
            seen.add(x.cheats());
            seen.add(x.coin(1));
            seen.add(x.run(1, 2));
            seen.add(x.hiding(1));
        }
        atPeople(x, seen);
    }

    private static void atImages(DebtFronts x, List<Integer> seen) {
        for (int k = 0; k <= 1; k++) {
            seen.add(x.restore(k));
            for (int p = 0; p < x.count(1); p++) {
                for (int what = 0; what <= 16; what++) {
                    seen.add(x.person(p, what));
                }
            }
            seen.add(x.count(3));
        }
    }

    private static void atRows(DebtFronts x, List<Integer> seen) {
        for (int row = 0; row < 8; row++) {
            for (int i = 0; i <= 34; i++) {
                int ways = x.fits(row, i, 3);
                seen.add(ways);
                if (ways == Check.NULL || ways == Check.PLACE) {
                    break;
                }
            }
            for (int other = row + 1; other < 8; other++) {
                seen.add(x.copy(row, 0, other, 0, 0));
            }
        }
        for (int row = 0; row < 8; row++) {
            seen.add(x.set(row, 0, 0x7FABCDEF));
            seen.add(x.drop(row));
        }
    }

    private static void atTape(DebtFronts x, List<Integer> seen) {
        seen.add(x.count(6));
        seen.add(x.town());
        atPeople(x, seen);
    }
}
