import java.util.ArrayList;
import java.util.HashMap;
import java.util.List;
import java.util.Map;

/**
 * Objects made alike: what one of them was asked besides may not be seen in any later answer.
 * Each look is a run of calls of its own on new objects, so that none goes beyond 512 calls.
 */
final class Twins {
    private static final int LOOKS = 6;
    private static final Map<Steps, List<List<String>>> KNOWN = new HashMap<>();

    private final SixWhoTurn x;
    private final List<String> seen = new ArrayList<>();

    interface Steps {
        void on(SixWhoTurn x);
    }

    interface Call {
        long on(SixWhoTurn x);
    }

    private Twins(SixWhoTurn x) {
        this.x = x;
    }

    /** A call that answers so, and behind which all is as if it had not been made. */
    static void nothing(String call, Steps before, Call asked, long want) {
        Steps withCall = y -> {
            before.on(y);
            Check.due(call, asked.on(y), want);
        };
        List<List<String>> due = KNOWN.computeIfAbsent(before, Twins::all);
        compare(call, all(withCall), due);
    }

    /** Two ways that lead to the same state. */
    static void alike(String name, Steps one, Steps other) {
        compare(name, all(one), all(other));
    }

    private static void compare(String name, List<List<String>> got, List<List<String>> due) {
        for (int look = 0; look < LOOKS; look++) {
            for (int k = 0; k < due.get(look).size(); k++) {
                String want = due.get(look).get(k);
                String is = got.get(look).get(k);
                Check.due("behind " + name + ": " + is + ", not " + want, is.equals(want), true);
            }
        }
    }

    private static List<List<String>> all(Steps before) {
        List<List<String>> all = new ArrayList<>();
        for (int look = 0; look < LOOKS; look++) {
            SixWhoTurn x = new SixWhoTurn();
            before.on(x);
            Twins t = new Twins(x);
            t.look(look);
            all.add(t.seen);
        }
        return all;
    }

    private void look(int kind) {
        switch (kind) {
            case 0: theMatch(); break;
            case 1: theChanges(); break;
            case 2: whoAndNumbers(); break;
            case 3: theText(); break;
            case 4: theNextSet(); break;
            default: goOn(); break;
        }
    }

    private void saw(String call, long answer) {
        seen.add(call + " = " + answer);
    }

    private void theMatch() {
        ofBoth();
        for (int t = 0; t < 2; t++) {
            for (int i = 0; i < 6; i++) {
                for (int j = 0; j < 6; j++) {
                    saw("odds(" + i + ", " + j + ", " + t + ")", x.odds(i, j, t));
                }
            }
            saw("overlap(" + t + ")", x.overlap(t));
        }
        saw("chance()", x.chance());
        saw("weight()", x.weight());
        for (int i = -1; i < 2; i++) {
            saw("row(" + i + ")", Check.row(x, i));
        }
    }

    private void ofBoth() {
        for (int what = 0; what < 8; what++) {
            saw("count(" + what + ")", x.count(what));
        }
        for (int t = 0; t < 2; t++) {
            for (int what = 0; what < 7; what++) {
                saw("of(" + t + ", " + what + ")", x.of(t, what));
            }
            for (int place = 0; place < 6; place++) {
                saw("at(" + t + ", " + place + ")", x.at(t, place));
            }
            for (int p = 0; p < 12; p++) {
                saw("served(" + t + ", " + p + ")", x.served(t, p));
            }
        }
    }

    private void theChanges() {
        for (int t = 0; t < 2; t++) {
            for (int k = 0; k < 144; k++) {
                saw("may(" + t + ", " + k / 12 + ", " + k % 12 + ")", x.may(t, k / 12, k % 12));
            }
        }
    }

    /** Numbers that have no call to ask for them are told by the call that changes them. */
    private void whoAndNumbers() {
        for (int t = 0; t < 2; t++) {
            for (int k = 0; k < 48; k++) {
                saw("skill of " + t + ", " + k / 4 + ", " + k % 4, x.skill(t, k / 4, k % 4, 0));
            }
            saw("libre of " + t, x.libre(t, -1));
        }
        int[] least = {5, 30, 5, 1, 0, 0};
        for (int what = 0; what < 6; what++) {
            saw("number " + what, x.set(what, least[what]));
        }
    }

    private void theText() {
        saw("signs", x.count(6));
        x.lineUp(0, 1, 2, 3, 4, 5, 6);
        x.lineUp(1, 1, 2, 3, 4, 5, 6);
        saw("begin(0)", x.begin(0));
        saw("sheet()", x.sheet());
        ofBoth();
    }

    private void theNextSet() {
        saw("turn(0, 0)", x.turn(0, 0));
        saw("row(0)", Check.row(x, 0));
        saw("turn(1, 1)", x.turn(1, 1));
        saw("row(0)", Check.row(x, 0));
        saw("begin(1)", x.begin(1));
        ofBoth();
        saw("overlap(0)", x.overlap(0));
        saw("lineUp", x.lineUp(0, 1, 2, 3, 4, 5, 6) ? 1 : 0);
        saw("begin(1)", x.begin(1));
    }

    /** FREE, pauses and points since the serve, and then rallies to the end of the set. */
    private void goOn() {
        for (int t = 0; t < 2; t++) {
            saw("free(" + t + ", -1)", x.free(t, -1));
            saw("free for 4", x.free(t, x.at(t, 4)));
            saw("free for 5", x.free(t, x.at(t, 5)));
            for (int k = 0; k < 5; k++) {
                saw("pause(" + t + ")", x.pause(t));
            }
        }
        for (int k = 6; k >= 0; k--) {
            saw("wrong(" + k + ")", x.wrong(k));
        }
        for (int k = 0; k < 40; k++) {
            saw("rally " + k, x.rally(k % 5 / 3));
            saw("overlap", x.overlap(0) * 10 + x.overlap(1));
        }
        ofBoth();
    }
}
