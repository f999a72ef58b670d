/** The boundaries that promises 17 and 18 and Terms 3 name. */
public final class FeetEdgesTest {
    private static final int[] NO_TEAM = {-2, -1, 2, 3, Integer.MIN_VALUE, Integer.MAX_VALUE};
    private static final int[][] FIRST = {{800, 800}, {800, 200}, {500, 200}, {200, 200}, {200, 800}, {500, 800}};
    /** For each rule: by x (0) or y (1), the place below, the place above. */
    private static final int[][] RULES =
        {{1, 1, 0}, {1, 2, 5}, {1, 3, 4}, {0, 3, 2}, {0, 2, 1}, {0, 4, 5}, {0, 5, 0}};

    public static void main(String[] args) {
        feetFromNoughtToTheEnd();
        placesFromNoughtToFive();
        feetByState();
        aRefusedFootStays();
        eachTeamHasItsOwnFeet();
        firstFeetWithEachSet();
        everyRuleAtTheEnds();
        allRulesBroken();
        whoServesIsSpared();
        overlapByState();
        Check.finish();
    }

    private static SixWhoTurn begun(int server) {
        SixWhoTurn x = new SixWhoTurn();
        x.set(0, 5);
        Check.start(x, server, 0);
        return x;
    }

    /** "x (0 .. 999 ...), y (0 .. 999 ...)" */
    private static void feetFromNoughtToTheEnd() {
        int[] values = {Integer.MIN_VALUE, -1000, -1, 0, 1, 998, 999, 1000, 1001, Integer.MAX_VALUE};
        for (int team = 0; team < 2; team++) {
            SixWhoTurn x = begun(0);
            for (int place = 0; place < 6; place++) {
                for (int v : values) {
                    boolean taken = v >= 0 && v <= 999;
                    Check.due("x " + v, x.feet(team, place, v, 500), taken);
                    Check.due("y " + v, x.feet(team, place, 500, v), taken);
                }
            }
        }
    }

    /** "of each PLACE", of each TEAM, and none beside. */
    private static void placesFromNoughtToFive() {
        SixWhoTurn x = begun(0);
        for (int place = -2; place <= 7; place++) {
            for (int team = -2; team <= 3; team++) {
                boolean such = place >= 0 && place <= 5 && team >= 0 && team <= 1;
                Check.due("feet(" + team + ", " + place + ")", x.feet(team, place, 500, 500), such);
            }
        }
    }

    /** "Refused: others, no SET is on." */
    private static void feetByState() {
        SixWhoTurn x = new SixWhoTurn();
        x.set(0, 5);
        Check.due("no SET was begun", x.feet(0, 2, 500, 200), false);
        x.lineUp(0, 0, 1, 2, 3, 4, 5);
        x.lineUp(1, 0, 1, 2, 3, 4, 5);
        Check.due("LINE-UPS told alone", x.feet(0, 2, 500, 200), false);
        x.begin(0);
        Check.due("a SET is on", x.feet(0, 2, 500, 200), true);
        Check.rallies(x, "AAAAA", 1);
        Check.due("between SETS", x.feet(0, 2, 500, 200), false);
        Check.start(x, 0, 1);
        Check.due("a SET is on", x.feet(0, 2, 500, 200), true);
        Check.rallies(x, "AAAAA", 2);
        Check.due("behind THE MATCH", x.feet(0, 2, 500, 200), false);
    }

    /** Of a refused foot neither x nor y is taken. */
    private static void aRefusedFootStays() {
        SixWhoTurn x = begun(0);
        Check.due("x too great", x.feet(1, 2, 1000, 900), false);
        Check.due("y stays", x.overlap(1), -2);
        Check.due("y too great", x.feet(1, 2, 100, 1000), false);
        Check.due("x stays", x.overlap(1), -2);
        Check.due("x too small", x.feet(1, 2, -1, 900), false);
        Check.due("y stays", x.overlap(1), -2);
        Check.due("y too small", x.feet(1, 2, 100, -1), false);
        Check.due("x stays", x.overlap(1), -2);
        Check.due("taken", x.feet(1, 2, 100, 200), true);
        Check.due("x moved", x.overlap(1), 3);
        Check.due("taken", x.feet(1, 2, 500, 900), true);
        Check.due("x and y moved", x.overlap(1), 1);
    }

    /** "of each PLACE", "of its own TEAM": the feet of one leave those of the other. */
    private static void eachTeamHasItsOwnFeet() {
        for (int team = 0; team < 2; team++) {
            SixWhoTurn x = begun(team);
            Check.due("crossed", x.feet(team, 2, 100, 200), true);
            Check.due("of this one", x.overlap(team), 3);
            Check.due("of the other", x.overlap(1 - team), -2);
            Check.due("crossed otherwise", x.feet(1 - team, 4, 600, 800), true);
            Check.due("of this one", x.overlap(team), 3);
            Check.due("of the other", x.overlap(1 - team), 5);
        }
    }

    /** "at first (and with each SET)": all feet moved in the first SET, each number of the second is at its edge. */
    private static void firstFeetWithEachSet() {
        for (int rule = 0; rule < 7; rule++) {
            for (int step = -1; step <= 0; step++) {
                for (int moved = 1; moved <= 2; moved++) {
                    SixWhoTurn x = begun(0);
                    for (int k = 0; k < 12; k++) {
                        x.feet(k / 6, k % 6, 100 + k, 999 - k);
                    }
                    Check.due("all moved", x.overlap(1) >= 0, true);
                    Check.rallies(x, "AAAAA", 1);
                    Check.start(x, 0, 1);
                    Check.due("feet of 0", x.overlap(0), -2);
                    Check.due("feet of 1", x.overlap(1), -2);
                    int place = RULES[rule][moved];
                    int other = RULES[rule][3 - moved];
                    int by = RULES[rule][0];
                    int[] foot = FIRST[place].clone();
                    foot[by] = FIRST[other][by] + (moved == 1 ? step : -step);
                    Check.due("feet", x.feet(1, place, foot[0], foot[1]), true);
                    int broken = x.overlap(1);
                    Check.due("rule " + rule, broken == rule, step == 0);
                }
            }
        }
    }

    /** "below" at both ends of the range: 0 below 1 and 998 below 999, but 0 not below 0, nor 999 below 999. */
    private static void everyRuleAtTheEnds() {
        int[][] pairs = {{0, 1, 1}, {0, 0, 0}, {998, 999, 1}, {999, 999, 0}, {1, 0, 0}, {999, 0, 0}, {0, 999, 1}};
        for (int rule = 0; rule < 7; rule++) {
            for (int[] pair : pairs) {
                for (int team = 0; team < 2; team++) {
                    SixWhoTurn x = begun(1 - team);
                    foot(x, team, RULES[rule][1], RULES[rule][0], pair[0]);
                    foot(x, team, RULES[rule][2], RULES[rule][0], pair[1]);
                    // Other rules of the same places may be broken too, so this one is set apart by its feet alone.
                    for (int k = 0; k < rule; k++) {
                        spread(x, team, k, rule);
                    }
                    // Nothing is below 0: with the middle one there, the rule ahead of this one is broken.
                    boolean earlier = pair[0] == 0 && (rule == 4 || rule == 6);
                    int broken = x.overlap(team);
                    String what = "rule " + rule + ", " + pair[0] + " below " + pair[1];
                    Check.due(what, broken == (earlier ? rule - 1 : rule), earlier || pair[2] == 0);
                }
            }
        }
    }

    private static void foot(SixWhoTurn x, int team, int place, int by, int v) {
        int other = FIRST[place][1 - by];
        Check.due("foot", x.feet(team, place, by == 0 ? v : other, by == 0 ? other : v), true);
    }

    /** Moves the place of an earlier rule that the later one does not look at, so that the earlier one holds. */
    private static void spread(SixWhoTurn x, int team, int earlier, int rule) {
        int by = RULES[earlier][0];
        if (by != RULES[rule][0]) {
            return;
        }
        int below = RULES[earlier][1];
        int above = RULES[earlier][2];
        boolean looksAtBelow = below == RULES[rule][1] || below == RULES[rule][2];
        boolean looksAtAbove = above == RULES[rule][1] || above == RULES[rule][2];
        if (looksAtBelow && !looksAtAbove) {
            foot(x, team, above, by, 999);
        } else if (looksAtAbove && !looksAtBelow) {
            foot(x, team, below, by, 0);
        }
    }

    /** "The first rule of OVERLAP that is broken": mended one by one, the next is told. */
    private static void allRulesBroken() {
        for (int team = 0; team < 2; team++) {
            for (int server = 0; server < 2; server++) {
                SixWhoTurn x = begun(server);
                for (int place = 0; place < 6; place++) {
                    x.feet(team, place, 999 - FIRST[place][0], 999 - FIRST[place][1]);
                }
                int[][] mends = {{0, 199, 900}, {2, 499, 100}, {3, 799, 100}, {3, 400, 100}, {1, 600, 799}, {4, 400, 199},
                    {0, 500, 900}};
                for (int rule = 0; rule < 7; rule++) {
                    boolean spared = team == server && (rule == 0 || rule == 6);
                    int told = x.overlap(team);
                    Check.due("rule " + rule, told, !spared ? rule : rule == 0 ? 1 : -2);
                    Check.due("mend", x.feet(team, mends[rule][0], mends[rule][1], mends[rule][2]), true);
                }
                Check.due("none", x.overlap(team), -2);
                Check.due("of the other", x.overlap(1 - team), -2);
            }
        }
    }

    /** "Rules with PLACE 0 of the TEAM that serves do not hold for it": told anew with each serve. */
    private static void whoServesIsSpared() {
        for (int rule : new int[] {0, 6}) {
            SixWhoTurn x = begun(0);
            for (int team = 0; team < 2; team++) {
                x.feet(team, 0, rule == 6 ? 500 : 800, rule == 0 ? 200 : 800);
            }
            for (int k = 0; k < 6; k++) {
                int server = k % 2;
                Check.due("who serves", x.overlap(server), -2);
                Check.due("who does not", x.overlap(1 - server), rule);
                x.rally(1 - server);
            }
            Check.due("wrong", x.wrong(0), 0);
            Check.due("who serves now", x.overlap(1), -2);
            Check.due("who served", x.overlap(0), rule);
        }
    }

    /** "-2: none; NONE: none such, no SET is on." */
    private static void overlapByState() {
        SixWhoTurn x = new SixWhoTurn();
        x.set(0, 5);
        x.set(3, 1);
        Check.due("no SET was begun", x.overlap(0), -1);
        Check.start(x, 0, 0);
        for (int team : NO_TEAM) {
            Check.due("none such", x.overlap(team), -1);
        }
        Check.due("none broken", x.overlap(0), -2);
        Check.rallies(x, "AAAAA", 2);
        Check.due("no SET is on", x.overlap(0), -1);
        Check.due("no SET is on", x.overlap(1), -1);
        Check.due("none such", x.overlap(2), -1);
    }
}
