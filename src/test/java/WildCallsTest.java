import java.util.Random;

/** No call lets an exception out but row, for any numbers in any state. */
public final class WildCallsTest {
    private static final int[] EDGES = {Integer.MIN_VALUE, Integer.MIN_VALUE + 1, -1001, -100, -13, -2, -1, 0, 1, 2, 3,
        4, 5, 6, 7, 11, 12, 13, 25, 30, 31, 50, 80, 99, 100, 101, 999, 1000, 1 << 30, Integer.MAX_VALUE};

    private final Random random;
    private final SixWhoTurn x = new SixWhoTurn();

    private WildCallsTest(int run) {
        random = new Random(104729L * run + 3);
    }

    public static void main(String[] args) {
        for (int run = 0; run < 300; run++) {
            WildCallsTest test = new WildCallsTest(run);
            for (int call = 0; call < 512; call++) {
                int kind = test.random.nextInt(27);
                try {
                    test.call(kind);
                } catch (RuntimeException e) {
                    Check.due("run " + run + ", call " + call + ", kind " + kind + ": " + e, 1, 0);
                }
            }
        }
        Check.due("all calls came back", 0, 0);
        Check.finish();
    }

    private int any(int most) {
        int kind = random.nextInt(12);
        return kind == 0 ? EDGES[random.nextInt(EDGES.length)] : kind == 1 ? random.nextInt() : random.nextInt(most + 1);
    }

    private void call(int kind) {
        switch (kind) {
            case 0: x.skill(any(1), any(11), any(3), any(100)); break;
            case 1: x.libre(any(1), any(11)); break;
            case 2: x.set(any(5), any(30)); break;
            case 3: x.lineUp(any(1), any(1), 2 + any(1), 4 + any(1), 6 + any(1), 8 + any(1), 10 + any(1)); break;
            case 4: x.lineUp(any(1), 0, 1, 2, 3, 4, 5); break;
            case 5: x.begin(any(1)); break;
            case 6: case 7: case 8: x.rally(any(1)); break;
            case 9: x.may(any(1), any(11), any(11)); break;
            case 10: x.change(any(1), any(11), any(11)); break;
            case 11: x.free(any(1), any(12) - 1); break;
            case 12: x.pause(any(1)); break;
            case 13: x.wrong(any(2)); break;
            case 14: x.at(any(1), any(5)); break;
            case 15: x.of(any(1), any(6)); break;
            case 16: x.count(any(7)); break;
            case 17: x.served(any(1), any(11)); break;
            case 18: x.feet(any(1), any(5), any(999), any(999)); break;
            case 19: x.overlap(any(1)); break;
            case 20: sign(); break;
            case 21: x.end(any(100)); break;
            case 22: x.sheet(); break;
            case 23: x.odds(any(5), any(5), any(1)); break;
            case 24: chances(); break;
            case 25: x.advice(any(1)); break;
            default: row(); break;
        }
    }

    private void sign() {
        String signs = "AABBab!*-0123456789xy";
        int v = 0;
        for (int k = 0; k < 4; k++) {
            int c = random.nextInt(10) == 0 ? random.nextInt(256) : signs.charAt(random.nextInt(signs.length()));
            v = v << 8 | c;
        }
        x.sign(v);
    }

    private void chances() {
        x.chance();
        x.weight();
        x.turn(any(1), any(1));
    }

    private void row() {
        int i = any(1);
        int size = x.count(5);
        boolean thrown = Check.row(x, i) == Long.MIN_VALUE;
        Check.due("row(" + i + ") of " + size, thrown, i < 0 || i >= size);
    }
}
