/** Promises 17 and 18: feet, overlap. */
public final class FeetTest {
    /** For each rule: by y (1) or x (0), the place below, the place above. */
    private static final int[][] RULES =
        {{1, 1, 0}, {1, 2, 5}, {1, 3, 4}, {0, 3, 2}, {0, 2, 1}, {0, 4, 5}, {0, 5, 0}};
    private static final int[][] FIRST = {{800, 800}, {800, 200}, {500, 200}, {200, 200}, {200, 800}, {500, 800}};

    public static void main(String[] args) {
        refused();
        edges();
        eachRule();
        firstOfSeveral();
        feetStayAndReturn();
        Check.finish();
    }

    private static void refused() {
        SixWhoTurn x = new SixWhoTurn();
        Check.due("feet with no set", x.feet(0, 0, 1, 1), false);
        Check.due("overlap with no set", x.overlap(0), -1);
        Check.start(x, 0, 0);
        for (int bad : new int[] {-1, Integer.MIN_VALUE, Integer.MAX_VALUE, 1000}) {
            Check.due("feet of no team", x.feet(bad, 2, 0, 999), false);
            Check.due("feet of no place", x.feet(1, bad, 0, 999), false);
            Check.due("feet at no x", x.feet(1, 2, bad, 999), false);
            Check.due("feet at no y", x.feet(1, 2, 0, bad), false);
            Check.due("overlap of no team", x.overlap(bad), -1);
        }
        Check.due("feet of team 2", x.feet(2, 2, 0, 999), false);
        Check.due("feet of place 6", x.feet(1, 6, 0, 999), false);
        Check.due("overlap of team 2", x.overlap(2), -1);
        Check.due("nothing moved of 1", x.overlap(1), -2);
        Check.due("nothing moved of 0", x.overlap(0), -2);
    }

    private static void edges() {
        SixWhoTurn x = new SixWhoTurn();
        Check.start(x, 0, 0);
        Check.due("feet at the corner", x.feet(1, 3, 0, 0), true);
        Check.due("feet at the other corner", x.feet(1, 0, 999, 999), true);
        Check.due("all is well", x.overlap(1), -2);
        Check.due("feet behind", x.feet(1, 3, 999, 999), true);
        Check.due("the left one behind", x.overlap(1), 2);
        Check.due("of the other team", x.overlap(0), -2);
    }

    /** Each rule at its edge, from the feet at first: the place below moves, or the one above. */
    private static void eachRule() {
        for (int rule = 0; rule < 7; rule++) {
            for (int team = 0; team < 2; team++) {
                for (int server = 0; server < 2; server++) {
                    for (int step = -1; step <= 1; step++) {
                        edgeOfRule(rule, team, server, step, true);
                        edgeOfRule(rule, team, server, step, false);
                    }
                }
            }
        }
    }

    private static void edgeOfRule(int rule, int team, int server, int step, boolean moveBelow) {
        SixWhoTurn x = new SixWhoTurn();
        Check.start(x, server, 0);
        int by = RULES[rule][0];
        int below = RULES[rule][1];
        int above = RULES[rule][2];
        if (moveBelow) {
            place(x, team, by, below, FIRST[above][by] + step);
        } else {
            place(x, team, by, above, FIRST[below][by] - step);
        }
        boolean spared = team == server && above == 0;
        Check.due("rule " + rule + ", team " + team + ", server " + server + ", step " + step,
            firstUpTo(x, team, rule), step < 0 || spared ? -2 : rule);
    }

    private static void place(SixWhoTurn x, int team, int by, int place, int at) {
        int fx = by == 0 ? at : FIRST[place][0];
        int fy = by == 1 ? at : FIRST[place][1];
        Check.due("feet", x.feet(team, place, fx, fy), true);
    }

    /** What overlap tells; a rule beyond the one looked at counts as none. */
    private static int firstUpTo(SixWhoTurn x, int team, int rule) {
        int broken = x.overlap(team);
        return broken > rule ? -2 : broken;
    }

    private static void firstOfSeveral() {
        SixWhoTurn x = new SixWhoTurn();
        Check.start(x, 0, 0);
        for (int team = 0; team < 2; team++) {
            for (int place = 0; place < 6; place++) {
                x.feet(team, place, 500, 500);
            }
        }
        Check.due("all on one spot, not serving", x.overlap(1), 0);
        Check.due("all on one spot, serving", x.overlap(0), 1);
        x.feet(0, 2, 500, 100);
        Check.due("next", x.overlap(0), 2);
        x.feet(0, 3, 500, 100);
        Check.due("next", x.overlap(0), 3);
        x.feet(0, 3, 400, 100);
        Check.due("next", x.overlap(0), 4);
        x.feet(0, 1, 600, 100);
        Check.due("next", x.overlap(0), 5);
        x.feet(0, 4, 400, 500);
        Check.due("the last rule is not for who serves", x.overlap(0), -2);
        x.rally(1);
        Check.due("but for who does not", x.overlap(0), 6);
        x.feet(0, 0, 501, 100);
        Check.due("nor the first", x.overlap(0), 0);
        x.feet(0, 0, 501, 101);
        Check.due("all is well", x.overlap(0), -2);
    }

    private static void feetStayAndReturn() {
        SixWhoTurn x = new SixWhoTurn();
        x.set(0, 5);
        x.set(1, 5);
        Check.start(x, 0, 0);
        x.feet(0, 2, 100, 200);
        Check.due("crossed", x.overlap(0), 3);
        Check.rallies(x, "BAAA", 0);
        Check.due("feet are of places, a turn leaves them", x.overlap(0), 3);
        Check.rallies(x, "AA", 1);
        Check.due("no set is on", x.overlap(0), -1);
        Check.due("no set is on", x.feet(0, 2, 100, 200), false);
        Check.start(x, 0, 1);
        Check.due("a new set", x.overlap(0), -2);
        Check.due("a new set", x.overlap(1), -2);
    }
}
