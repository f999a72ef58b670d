/** The boundaries that promises 1 to 4 and Terms 1 name: the last input that is taken, the first that is refused. */
public final class WhoEdgesTest {
    private static final String[] NUMBERS = {"GOAL", "CAP", "LAST", "SETS", "CHANGES", "PAUSES"};
    private static final int[] FIRST = {25, 30, 15, 2, 6, 2};

    public static void main(String[] args) {
        noSetBegun();
        feetAtFirst();
        skillsFromNoughtToHundred();
        skillInEveryState();
        playersFromNoughtToEleven();
        atMostOneIsFree();
        libreTellsWhoItWas();
        libreByState();
        eachNumberAtFirst();
        eachNumberFromLeastToMost();
        goalNeverAboveCap();
        lastMayBeAboveCap();
        setUntilASetWasBegun();
        Check.finish();
    }

    /** Promise 1, "As told; no SET begun." */
    private static void noSetBegun() {
        SixWhoTurn x = new SixWhoTurn();
        Check.due("number of the SET", x.count(0), -1);
        Check.due("no SET is on", x.count(1), 0);
        Check.due("nobody serves", x.count(2), -1);
        Check.due("no SET was won", x.count(7), -1);
        Check.due("no MATCH was won", x.count(4), -1);
        Check.due("no text", x.count(6), 0);
        Check.due("no ROW", x.count(5), 0);
        Check.due("no LINE-UPS", x.begin(0), -1);
        Check.due("no FREE of 0", x.libre(0, -1), -1);
        Check.due("no FREE of 1", x.libre(1, -1), -1);
        Check.due("objects share nothing", x.skill(1, 11, 3, 0), 50);
        Check.due("objects share nothing", new SixWhoTurn().skill(1, 11, 3, 0), 50);
    }

    /** Terms 3, "at first": a SET begins with feet that break no rule, for either server. */
    private static void feetAtFirst() {
        for (int server = 0; server < 2; server++) {
            SixWhoTurn x = new SixWhoTurn();
            Check.start(x, server, 0);
            Check.due("feet of 0", x.overlap(0), -2);
            Check.due("feet of 1", x.overlap(1), -2);
        }
    }

    /** Promise 2, "SERVE, PASS, ATTACK, BLOCK 0 .. 100 (at first 50)". */
    private static void skillsFromNoughtToHundred() {
        for (int team = 0; team < 2; team++) {
            for (int what = 0; what < 4; what++) {
                SixWhoTurn x = new SixWhoTurn();
                Check.due("to 0", x.skill(team, 11, what, 0), 50);
                Check.due("to -1", x.skill(team, 11, what, -1), -1);
                Check.due("to 100", x.skill(team, 11, what, 100), 0);
                Check.due("to 101", x.skill(team, 11, what, 101), -1);
                Check.due("to 1", x.skill(team, 11, what, 1), 100);
                Check.due("to what it is", x.skill(team, 11, what, 1), 1);
                for (int k = 0; k < 96; k++) {
                    boolean same = k == team * 48 + 44 + what;
                    Check.due("of all others", x.skill(k / 48, k % 48 / 4, k % 4, 50), same ? 1 : 50);
                }
            }
        }
    }

    /** Promise 2 refuses no state: ahead of a SET, in it, behind it, behind THE MATCH. */
    private static void skillInEveryState() {
        SixWhoTurn x = new SixWhoTurn();
        x.set(0, 5);
        Check.due("ahead", x.skill(0, 0, 0, 1), 50);
        Check.start(x, 0, 0);
        Check.due("in a SET", x.skill(0, 0, 0, 2), 1);
        Check.rallies(x, "AAAAA", 1);
        Check.due("between SETS", x.skill(0, 0, 0, 3), 2);
        Check.start(x, 0, 1);
        Check.rallies(x, "AAAAA", 2);
        Check.due("behind THE MATCH", x.skill(0, 0, 0, 4), 3);
        Check.due("and again", x.skill(0, 0, 0, 5), 4);
    }

    /** Terms 1, "PLAYERS 0 .. 11", "TEAMS 0 and 1". */
    private static void playersFromNoughtToEleven() {
        SixWhoTurn x = new SixWhoTurn();
        for (int player = -3; player <= 14; player++) {
            for (int team = -2; team <= 3; team++) {
                boolean such = team >= 0 && team <= 1 && player >= 0 && player <= 11;
                Check.due("skill of " + team + ", " + player, x.skill(team, player, 1, 50), such ? 50 : -1);
                Check.due("served of " + team + ", " + player, x.served(team, player), such ? 0 : -1);
            }
        }
        for (int player = -4; player <= 14; player++) {
            boolean such = player >= -1 && player <= 11;
            Check.due("libre " + player, x.libre(1, player), such ? Math.max(-1, player - 1) : -2);
        }
    }

    /** Terms 1, "at most one of a TEAM is its FREE one": a new one takes the place of the old one. */
    private static void atMostOneIsFree() {
        SixWhoTurn x = new SixWhoTurn();
        x.libre(0, 3);
        Check.due("FREE in a LINE-UP", x.lineUp(0, 0, 1, 2, 3, 4, 5), false);
        x.libre(0, 4);
        Check.due("the new one", x.lineUp(0, 0, 1, 2, 4, 6, 5), false);
        Check.due("the old one", x.lineUp(0, 0, 1, 2, 3, 6, 5), true);
        x.libre(0, -1);
        Check.due("nobody", x.lineUp(0, 0, 1, 2, 3, 4, 5), true);
        Check.due("each TEAM its own", x.libre(1, 0), -1);
        Check.due("still nobody of 0", x.libre(0, 0), -1);
        Check.due("the same number in both", x.libre(1, 0), 0);
    }

    /** Promise 3, "who it was (NONE)". */
    private static void libreTellsWhoItWas() {
        for (int team = 0; team < 2; team++) {
            SixWhoTurn x = new SixWhoTurn();
            int was = -1;
            for (int player : new int[] {0, 11, 11, 5, -1, -1, 7, 0, -1}) {
                Check.due("libre", x.libre(team, player), was);
                was = player;
            }
        }
    }

    /** Promise 3, "-2 if refused: none such, a SET is on". */
    private static void libreByState() {
        SixWhoTurn x = new SixWhoTurn();
        x.set(0, 5);
        x.lineUp(0, 0, 1, 2, 3, 4, 5);
        x.lineUp(1, 6, 7, 8, 9, 10, 11);
        Check.due("with LINE-UPS told", x.libre(0, 9), -1);
        Check.due("of the LINE-UP itself", x.libre(1, 9), -1);
        Check.due("begin refuses it", x.begin(0), -1);
        Check.due("taken back", x.libre(1, 0), 9);
        Check.due("begin", x.begin(0), 0);
        for (int player = -3; player < 14; player++) {
            Check.due("in a SET", x.libre(0, player), -2);
            Check.due("in a SET", x.libre(1, player), -2);
        }
        Check.rallies(x, "AAAAA", 1);
        Check.due("between SETS", x.libre(0, 8), 9);
        Check.start(x, 0, 1);
        Check.due("in the next SET", x.libre(0, 9), -2);
        Check.rallies(x, "AAAAA", 2);
        Check.due("behind THE MATCH", x.libre(0, 9), 8);
        Check.due("none such behind THE MATCH", x.libre(0, 12), -2);
    }

    /** Terms 1, NUMBERS "at first". */
    private static void eachNumberAtFirst() {
        int[] other = {24, 29, 14, 3, 7, 3};
        for (int what = 0; what < 6; what++) {
            SixWhoTurn x = new SixWhoTurn();
            Check.due(NUMBERS[what] + " at first", x.set(what, other[what]), FIRST[what]);
            for (int w = 0; w < 6; w++) {
                Check.due(NUMBERS[w] + " besides", x.set(w, FIRST[w]), w == what ? other[w] : FIRST[w]);
            }
        }
    }

    /** Terms 1, the ranges: every value of each number, and those beside them. */
    private static void eachNumberFromLeastToMost() {
        int[] least = {5, 5, 5, 1, 0, 0};
        int[] most = {25, 30, 25, 3, 12, 4};
        for (int what = 0; what < 6; what++) {
            SixWhoTurn x = new SixWhoTurn();
            int was = FIRST[what];
            if (what == 1) {
                Check.due("a low GOAL", x.set(0, 5), 25);
            }
            for (int v = -3; v < 40; v++) {
                boolean taken = v >= least[what] && v <= most[what];
                Check.due("set(" + NUMBERS[what] + ", " + v + ")", x.set(what, v), taken ? was : -1);
                was = taken ? v : was;
            }
            Check.due(NUMBERS[what] + " stayed", x.set(what, most[what]), most[what]);
        }
        SixWhoTurn x = new SixWhoTurn();
        for (int what = -3; what < 10; what++) {
            boolean such = what >= 0 && what < 6;
            Check.due("set(" + what + ", ..)", x.set(what, such ? FIRST[what] : 5), such ? FIRST[what] : -1);
        }
    }

    /** Promise 4, "GOAL above CAP", and Terms 1, "CAP (GOAL .. 30)": every pair of both. */
    private static void goalNeverAboveCap() {
        for (int goal = 5; goal <= 25; goal++) {
            for (int cap = goal; cap <= 30; cap++) {
                SixWhoTurn x = new SixWhoTurn();
                Check.due("GOAL", x.set(0, goal), 25);
                Check.due("CAP", x.set(1, cap), 30);
                Check.due("CAP below GOAL", x.set(1, goal - 1), -1);
                if (cap < 25) {
                    Check.due("GOAL above CAP", x.set(0, cap + 1), -1);
                }
                Check.due("GOAL at CAP", x.set(0, Math.min(25, cap)), goal);
                Check.due("CAP at GOAL", x.set(1, Math.min(25, cap)), cap);
            }
        }
    }

    /** Terms 1 bind LAST to 5 .. 25 alone. */
    private static void lastMayBeAboveCap() {
        SixWhoTurn x = new SixWhoTurn();
        x.set(0, 5);
        x.set(1, 5);
        Check.due("LAST above CAP", x.set(2, 25), 15);
        Check.due("CAP below LAST", x.set(1, 6), 5);
        Check.due("LAST below GOAL", x.set(2, 5), 25);
        Check.due("GOAL above LAST", x.set(0, 6), 5);
    }

    /** Promise 4, "a SET was begun": not only one that is on. */
    private static void setUntilASetWasBegun() {
        for (int what = 0; what < 6; what++) {
            SixWhoTurn x = new SixWhoTurn();
            x.set(0, 5);
            x.lineUp(0, 0, 1, 2, 3, 4, 5);
            x.lineUp(1, 6, 7, 8, 9, 10, 11);
            int was = what == 0 ? 5 : FIRST[what];
            Check.due("with LINE-UPS told", x.set(what, was), was);
            Check.due("a refused begin begins none", x.begin(2), -1);
            Check.due("behind it", x.set(what, was), was);
            Check.due("begin", x.begin(0), 0);
            Check.due("in a SET", x.set(what, was), -1);
            Check.rallies(x, "AAAAA", 1);
            Check.due("between SETS", x.set(what, was), -1);
            Check.start(x, 0, 1);
            Check.rallies(x, "AAAAA", 2);
            Check.due("behind THE MATCH", x.set(what, was), -1);
        }
    }
}
