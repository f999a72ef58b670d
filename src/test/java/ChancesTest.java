/** Promises 22 to 27: odds, chance, weight, turn, advice, row. */
public final class ChancesTest {
    private static final int[] BAD = {-1, 6, Integer.MIN_VALUE, Integer.MAX_VALUE};

    public static void main(String[] args) {
        oddsRefused();
        oddsByPlace();
        oddsCutAndBounds();
        oddsLeaveFreeAside();
        chanceNearTheEnd();
        chanceIsCut();
        chanceOfLongSets();
        weights();
        weightOfALostServe();
        turns();
        turnToLast();
        turnRefused();
        advices();
        adviceBack();
        adviceRefused();
        rows();
        Check.finish();
    }

    private static SixWhoTurn small() {
        SixWhoTurn x = new SixWhoTurn();
        x.set(0, 5);
        x.set(1, 5);
        return x;
    }

    private static void oddsRefused() {
        SixWhoTurn x = new SixWhoTurn();
        Check.due("no set", x.odds(0, 0, 0), -1);
        x.lineUp(0, 0, 1, 2, 3, 4, 5);
        x.lineUp(1, 0, 1, 2, 3, 4, 5);
        Check.due("no set yet", x.odds(0, 0, 0), -1);
        Check.start(x, 0, 0);
        for (int bad : BAD) {
            Check.due("odds i", x.odds(bad, 0, 0), -1);
            Check.due("odds j", x.odds(0, bad, 0), -1);
            Check.due("odds team", x.odds(0, 0, bad), -1);
        }
        Check.due("odds of team 2", x.odds(0, 0, 2), -1);
        for (int i = 0; i < 6; i++) {
            for (int j = 0; j < 6; j++) {
                Check.due("even odds", x.odds(i, j, i & 1), 380);
            }
        }
    }

    /** One skill of one player at a time: it counts just where its place is, turn by turn. */
    private static void oddsByPlace() {
        for (int team = 0; team < 2; team++) {
            for (int what = 0; what < 4; what++) {
                for (int start = 0; start < 6; start++) {
                    SixWhoTurn x = new SixWhoTurn();
                    Check.start(x, 0, 0);
                    x.skill(team, team * 6 + start, what, 80);
                    for (int r = 0; r < 6; r++) {
                        int place = (start + 6 - r) % 6;
                        boolean front = place >= 1 && place <= 3;
                        int own = 380 + (what == 0 && place == 0 ? 30 : 0) + (what == 3 && front ? 10 : 0);
                        int others = 380 - (what == 1 && !front ? 10 : 0) - (what == 2 && front ? 10 : 0);
                        int i = team == 0 ? r : (r + start) % 6;
                        int j = team == 1 ? r : (r + start) % 6;
                        Check.due("serving, skill " + what + " at " + place, x.odds(i, j, team), own);
                        Check.due("receiving, skill " + what + " at " + place, x.odds(i, j, 1 - team), others);
                    }
                }
            }
        }
    }

    private static void oddsCutAndBounds() {
        SixWhoTurn x = new SixWhoTurn();
        Check.start(x, 0, 0);
        x.skill(1, 6, 1, 52);
        Check.due("152 by three is 50", x.odds(0, 0, 0), 380);
        x.skill(1, 7, 2, 52);
        Check.due("each third is cut alone", x.odds(0, 0, 0), 380);
        x.skill(0, 1, 3, 49);
        Check.due("149 by three is 49", x.odds(0, 0, 0), 379);
        x.skill(1, 6, 1, 53);
        Check.due("153 by three is 51", x.odds(0, 0, 0), 378);
        // 380 less two hundred is far above 50, and with two hundred far below 950: the bounds are never met.
        for (int p = 0; p < 12; p++) {
            for (int team = 0; team < 2; team++) {
                x.skill(team, p, 0, team == 0 ? 0 : 100);
                x.skill(team, p, 1, team == 0 ? 0 : 100);
                x.skill(team, p, 2, team == 0 ? 0 : 100);
                x.skill(team, p, 3, team == 0 ? 0 : 100);
            }
        }
        Check.due("the least", x.odds(0, 0, 0), 180);
        Check.due("the most", x.odds(0, 0, 1), 580);
    }

    private static void oddsLeaveFreeAside() {
        SixWhoTurn x = new SixWhoTurn();
        x.libre(0, 11);
        Check.start(x, 0, 0);
        for (int what = 0; what < 4; what++) {
            x.skill(0, 11, what, 100);
        }
        x.skill(0, 4, 1, 20);
        int before = x.chance();
        Check.due("odds", x.odds(0, 0, 1), 390);
        Check.due("on", x.free(0, 4), 4);
        Check.due("odds with FREE on", x.odds(0, 0, 1), 390);
        Check.due("chance with FREE on", x.chance(), before);
    }

    private static void chanceNearTheEnd() {
        SixWhoTurn x = small();
        x.skill(0, 0, 0, 60);
        Check.due("no set", x.chance(), -1);
        Check.start(x, 0, 0);
        Check.rallies(x, "AAAABBBB", 0);
        Check.due("served at 4:4 by 1", x.chance(), 620000000);
        Check.due("a rally that is all", x.weight(), 1000000000);
        Check.rallies(x, "B", 1);
        Check.due("no set is on", x.chance(), -1);
        Check.due("no set is on", x.weight(), -1);
        Check.start(x, 1, 1);
        Check.rallies(x, "BBBAAAA", 0);
        Check.due("4:3", x.of(0, 0) * 10 + x.of(1, 0), 43);
        Check.due("served at 4:3 by 0", x.chance(), 380000000 + 620 * 620000);
    }

    /** 333 of 1000 leaves thousandths behind that are cut at every score, not at the end alone. */
    private static void chanceIsCut() {
        SixWhoTurn x = small();
        for (int p = 0; p < 12; p++) {
            x.skill(0, p, 0, 3);
            x.skill(1, p, 0, 3);
        }
        Check.start(x, 0, 0);
        Check.due("odds", x.odds(0, 0, 0), 333);
        Check.rallies(x, "AB", 0);
        long[][] by0 = new long[6][6];
        long[][] by1 = new long[6][6];
        for (int a = 5; a >= 0; a--) {
            for (int b = 5; b >= 0; b--) {
                if (a == 5 || b == 5) {
                    by0[a][b] = a == 5 ? 1000000000L : 0L;
                    by1[a][b] = by0[a][b];
                } else {
                    by0[a][b] = (333 * by0[a + 1][b] + 667 * by1[a][b + 1]) / 1000;
                    by1[a][b] = (333 * by1[a][b + 1] + 667 * by0[a + 1][b]) / 1000;
                }
            }
        }
        Check.due("chance at 1:1", x.chance(), by1[1][1]);
        Check.due("weight at 1:1", x.weight(), by0[2][1] - by1[1][2]);
    }

    private static void chanceOfLongSets() {
        SixWhoTurn x = new SixWhoTurn();
        Check.start(x, 0, 0);
        long[][] by0 = new long[32][32];
        long[][] by1 = new long[32][32];
        for (int a = 30; a >= 0; a--) {
            for (int b = 30; b >= 0; b--) {
                if (a >= 30 || a >= 25 && a >= b + 2) {
                    by0[a][b] = 1000000000L;
                    by1[a][b] = 1000000000L;
                } else if (b < 30 && (b < 25 || b < a + 2)) {
                    by0[a][b] = (380 * by0[a + 1][b] + 620 * by1[a][b + 1]) / 1000;
                    by1[a][b] = (380 * by1[a][b + 1] + 620 * by0[a + 1][b]) / 1000;
                }
            }
        }
        Check.due("chance at 0:0", x.chance(), by0[0][0]);
        int a = 0;
        int b = 0;
        for (int k = 0; k < 58; k++) {
            // Team 1 leads at first; from 8:16 on team 0 comes level, and both go on to the cap.
            boolean zeroServes = k < 24 ? k % 3 == 0 : a <= b;
            Check.due("rally", x.rally(zeroServes ? 0 : 1), ends(a, b, zeroServes) ? 1 : 0);
            a += zeroServes ? 1 : 0;
            b += zeroServes ? 0 : 1;
            if (x.count(1) == 0) {
                break;
            }
            Check.due("chance at " + a + ":" + b, x.chance(), (zeroServes ? by0 : by1)[a][b]);
            Check.due("weight at " + a + ":" + b, x.weight(), by0[a + 1][b] - by1[a][b + 1]);
        }
    }

    private static boolean ends(int a, int b, boolean zeroWins) {
        int own = (zeroWins ? a : b) + 1;
        int others = zeroWins ? b : a;
        return own == 30 || own >= 25 && own >= others + 2;
    }

    private static void weights() {
        SixWhoTurn x = small();
        Check.start(x, 0, 0);
        Check.rallies(x, "BABABAA", 0);
        Check.due("4:3", x.weight(), 380000000);
        Check.due("nothing is played", x.count(3), 7);
    }

    private static void weightOfALostServe() {
        SixWhoTurn x = small();
        x.skill(1, 7, 0, 100);
        x.skill(0, 1, 0, 0);
        Check.start(x, 0, 0);
        Check.rallies(x, "AAABBAB", 0);
        SixWhoTurn zero = small();
        SixWhoTurn one = small();
        for (SixWhoTurn y : new SixWhoTurn[] {zero, one}) {
            y.skill(1, 7, 0, 100);
            y.skill(0, 1, 0, 0);
            Check.start(y, 0, 0);
            Check.rallies(y, "AAABBAB", 0);
        }
        zero.rally(0);
        one.rally(1);
        Check.due("weight", x.weight(), (zero.count(1) == 1 ? zero.chance() : 1000000000) - one.chance());
    }

    private static void turns() {
        for (int team = 0; team < 2; team++) {
            for (int strong = 0; strong < 6; strong++) {
                for (int first = 0; first < 2; first++) {
                    SixWhoTurn x = small();
                    x.skill(team, strong, 0, 100);
                    x.lineUp(0, 0, 1, 2, 3, 4, 5);
                    x.lineUp(1, 0, 1, 2, 3, 4, 5);
                    int best = x.turn(team, first);
                    // Who serves first begins with its server; who receives turns once ahead of its serve.
                    Check.due("turn for " + strong, best, first == team ? strong : (strong + 5) % 6);
                    Check.due("numbers of the row", x.count(5), 1);
                    long told = Check.row(x, 0);
                    int[] p = new int[6];
                    for (int k = 0; k < 6; k++) {
                        p[k] = (k + best) % 6;
                    }
                    Check.due("turn says nothing to the line-up", x.turn(team, first), best);
                    x.lineUp(team, p[0], p[1], p[2], p[3], p[4], p[5]);
                    Check.due("now it is on", x.turn(team, first), 0);
                    Check.due("begin", x.begin(first), 0);
                    Check.due("the row", told, x.chance());
                    Check.due("no line-up told in a set", x.turn(team, first), -1);
                    Check.due("the row stays", Check.row(x, 0), told);
                }
            }
        }
        SixWhoTurn even = new SixWhoTurn();
        even.lineUp(0, 0, 1, 2, 3, 4, 5);
        even.lineUp(1, 0, 1, 2, 3, 4, 5);
        Check.due("of equal ones the least", even.turn(0, 1), 0);
        Check.due("of equal ones the least", even.turn(1, 1), 0);
        int then = even.turn(1, 0) == 0 ? even.row(0) : 0;
        even.begin(0);
        Check.due("chance", even.chance(), then);
    }

    /** The next set may be the one to LAST. */
    private static void turnToLast() {
        SixWhoTurn x = new SixWhoTurn();
        x.set(0, 6);
        x.set(2, 9);
        for (int p = 0; p < 12; p++) {
            x.skill(0, p, 0, 100 - 3 * p);
            x.skill(1, p, 1, 5 * p);
        }
        Check.start(x, 0, 0);
        Check.rallies(x, "AAAAAA", 1);
        Check.start(x, 0, 1);
        Check.rallies(x, "BBBBBB", 1);
        x.lineUp(0, 0, 1, 2, 3, 4, 5);
        x.lineUp(1, 6, 7, 8, 9, 10, 11);
        int best = x.turn(0, 1);
        long told = Check.row(x, 0);
        x.lineUp(0, best, (best + 1) % 6, (best + 2) % 6, (best + 3) % 6, (best + 4) % 6, (best + 5) % 6);
        Check.due("begin", x.begin(1), 2);
        Check.due("to LAST", x.chance(), told);
    }

    private static void turnRefused() {
        SixWhoTurn x = new SixWhoTurn();
        Check.due("none told", x.turn(0, 0), -1);
        x.lineUp(1, 0, 1, 2, 3, 4, 5);
        Check.due("one told", x.turn(0, 0), -1);
        Check.due("one told", x.turn(1, 0), -1);
        x.lineUp(0, 0, 1, 2, 3, 4, 5);
        for (int bad : new int[] {-1, 2, Integer.MIN_VALUE, Integer.MAX_VALUE}) {
            Check.due("turn of no team", x.turn(bad, 0), -1);
            Check.due("turn with no first", x.turn(0, bad), -1);
        }
        Check.due("no row", x.count(5), 0);
        Check.due("turn", x.turn(0, 0), 0);
        Check.due("a row", x.count(5), 1);
    }

    private static void advices() {
        for (int team = 0; team < 2; team++) {
            SixWhoTurn x = small();
            x.lineUp(0, 0, 1, 2, 3, 4, 5);
            x.lineUp(1, 0, 1, 2, 3, 4, 5);
            x.begin(team);
            Check.due("none is better", x.advice(team), -2);
            Check.due("no row", x.count(5), 0);
            x.skill(team, 9, 0, 70);
            Check.due("the server", x.advice(team), 9);
            long told = Check.row(x, 0);
            x.skill(team, 7, 0, 70);
            Check.due("of equal ones the least", x.advice(team), 7);
            Check.due("the same row", Check.row(x, 0), told);
            x.skill(team, 11, 0, 71);
            Check.due("the best", x.advice(team), 11);
            Check.due("better still", team == 0 ? Check.row(x, 0) > told : Check.row(x, 0) < told, true);
            told = Check.row(x, 0);
            Check.due("nothing was changed", x.at(team, 0), 0);
            Check.due("the change", x.change(team, 0, 11), 0);
            Check.due("the row", x.chance(), told);
        }
    }

    private static void adviceBack() {
        SixWhoTurn x = small();
        x.set(4, 2);
        x.libre(0, 8);
        Check.start(x, 0, 0);
        x.change(0, 0, 6);
        x.skill(0, 6, 0, 10);
        x.skill(0, 8, 2, 100);
        Check.due("the one way back", x.advice(0), 6 * 12);
        x.change(0, 6, 0);
        x.skill(0, 7, 0, 100);
        Check.due("changes are gone", x.advice(0), -2);
        SixWhoTurn y = small();
        y.libre(0, 8);
        Check.start(y, 0, 0);
        y.skill(0, 4, 1, 0);
        Check.due("who is weak goes", y.advice(0), 4 * 12 + 6);
        y.free(0, 4);
        Check.due("unless FREE stands for it", y.advice(0), -2);
    }

    private static void adviceRefused() {
        SixWhoTurn x = small();
        Check.due("no set", x.advice(0), -1);
        x.skill(0, 9, 0, 90);
        Check.start(x, 0, 0);
        for (int bad : new int[] {-1, 2, Integer.MIN_VALUE, Integer.MAX_VALUE}) {
            Check.due("advice of no team", x.advice(bad), -1);
        }
        Check.due("no row", x.count(5), 0);
        Check.due("advice", x.advice(0), 9);
        Check.due("none better for 1", x.advice(1), -2);
        Check.rallies(x, "AAAAA", 1);
        Check.due("no set is on", x.advice(0), -1);
        Check.due("the row stays", x.count(5), 1);
    }

    private static void rows() {
        SixWhoTurn x = small();
        for (int i : new int[] {0, 1, -1, Integer.MIN_VALUE, Integer.MAX_VALUE}) {
            Check.due("row of none", Check.row(x, i), Long.MIN_VALUE);
        }
        x.lineUp(0, 0, 1, 2, 3, 4, 5);
        x.lineUp(1, 0, 1, 2, 3, 4, 5);
        Check.due("turn", x.turn(0, 0), 0);
        for (int i : new int[] {1, -1, Integer.MIN_VALUE, Integer.MAX_VALUE}) {
            Check.due("beside the row", Check.row(x, i), Long.MIN_VALUE);
        }
        Check.due("the row", Check.row(x, 0) > 0, true);
    }
}
