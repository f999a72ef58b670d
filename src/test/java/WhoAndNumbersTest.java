/** Promises 1 to 4: a new object, skill, libre, set. */
public final class WhoAndNumbersTest {
    private static final int[] FAR = {-1, -2, Integer.MIN_VALUE, Integer.MAX_VALUE};

    public static void main(String[] args) {
        newObject();
        skills();
        skillsRefused();
        libres();
        numbers();
        numbersRefused();
        goalAndCap();
        Check.finish();
    }

    private static void newObject() {
        SixWhoTurn x = new SixWhoTurn();
        int[] counts = {-1, 0, -1, 0, -1, 0, 0, -1};
        for (int what = 0; what < 8; what++) {
            Check.due("new: count(" + what + ")", x.count(what), counts[what]);
        }
        for (int team = 0; team < 2; team++) {
            for (int what = 0; what < 7; what++) {
                Check.due("new: of(" + team + ", " + what + ")", x.of(team, what), what == 4 ? -1 : 0);
            }
            for (int place = 0; place < 6; place++) {
                Check.due("new: at", x.at(team, place), -1);
            }
            for (int player = 0; player < 12; player++) {
                Check.due("new: served", x.served(team, player), 0);
            }
            Check.due("new: overlap", x.overlap(team), -1);
            Check.due("new: turn", x.turn(team, 0), -1);
            Check.due("new: advice", x.advice(team), -1);
            Check.due("new: pause", x.pause(team), -1);
            Check.due("new: free", x.free(team, -1), -1);
            Check.due("new: feet", x.feet(team, 0, 1, 1), false);
        }
        Check.due("new: weight", x.weight(), -1);
        Check.due("new: chance", x.chance(), -1);
        Check.due("new: wrong", x.wrong(0), -1);
        Check.due("new: row(0)", Check.row(x, 0), Long.MIN_VALUE);
        Check.due("NONE", SixWhoTurn.NONE, -1);
    }

    private static void skills() {
        SixWhoTurn x = new SixWhoTurn();
        for (int team = 0; team < 2; team++) {
            for (int player = 0; player < 12; player++) {
                for (int what = 0; what < 4; what++) {
                    int v = (team * 48 + player * 4 + what) % 101;
                    Check.due("skill at first", x.skill(team, player, what, v), 50);
                }
            }
        }
        for (int team = 0; team < 2; team++) {
            for (int player = 0; player < 12; player++) {
                for (int what = 0; what < 4; what++) {
                    Check.due("skill then", x.skill(team, player, what, 100), (team * 48 + player * 4 + what) % 101);
                    Check.due("skill again", x.skill(team, player, what, 0), 100);
                }
            }
        }
    }

    private static void skillsRefused() {
        SixWhoTurn x = new SixWhoTurn();
        for (int far : FAR) {
            Check.due("skill of no team", x.skill(far, 0, 0, 7), -1);
            Check.due("skill of no player", x.skill(0, far, 0, 7), -1);
            Check.due("no skill", x.skill(0, 0, far, 7), -1);
            Check.due("skill to no number", x.skill(0, 0, 0, far), -1);
        }
        Check.due("skill(2, ..)", x.skill(2, 0, 0, 7), -1);
        Check.due("skill of 12", x.skill(0, 12, 0, 7), -1);
        Check.due("skill 4", x.skill(0, 0, 4, 7), -1);
        Check.due("skill to 101", x.skill(0, 0, 0, 101), -1);
        Check.due("no refused one changed a skill", x.skill(0, 0, 0, 8), 50);
        Check.due("nor that of its neighbour", x.skill(0, 1, 0, 8), 50);
        Check.due("nor of the other team", x.skill(1, 0, 0, 8), 50);
    }

    private static void libres() {
        SixWhoTurn x = new SixWhoTurn();
        Check.due("libre at first", x.libre(0, 0), -1);
        Check.due("libre again", x.libre(0, 11), 0);
        Check.due("the other team's libre", x.libre(1, 3), -1);
        Check.due("nobody", x.libre(0, -1), 11);
        Check.due("nobody again", x.libre(0, -1), -1);
        for (int bad : new int[] {-2, 12, Integer.MAX_VALUE, Integer.MIN_VALUE}) {
            Check.due("libre " + bad, x.libre(1, bad), -2);
            Check.due("libre of team " + bad, x.libre(bad, 1), -2);
        }
        Check.due("libre of team -1", x.libre(-1, 1), -2);
        Check.due("libre of team 2", x.libre(2, 1), -2);
        Check.due("libre stayed", x.libre(1, 4), 3);
        x.set(0, 5);
        x.set(1, 5);
        x.set(3, 1);
        x.libre(1, -1);
        Check.start(x, 0, 0);
        Check.due("libre in a set", x.libre(1, 4), -2);
        Check.due("nobody in a set", x.libre(1, -1), -2);
        Check.rallies(x, "AAAAA", 2);
        Check.due("libre behind a set", x.libre(1, 4), -1);
    }

    private static void numbers() {
        SixWhoTurn x = new SixWhoTurn();
        int[] first = {25, 30, 15, 2, 6, 2};
        int[] least = {5, 25, 5, 1, 0, 0};
        int[] most = {25, 30, 25, 3, 12, 4};
        for (int what = 0; what < 6; what++) {
            Check.due("set to the least", x.set(what, least[what]), first[what]);
            Check.due("set below", x.set(what, least[what] == 25 ? 4 : least[what] - 1), -1);
            Check.due("set above", x.set(what, most[what] + 1), -1);
            Check.due("set to the most", x.set(what, most[what]), least[what]);
            Check.due("set back", x.set(what, first[what]), most[what]);
            for (int far : new int[] {Integer.MIN_VALUE, -5, Integer.MAX_VALUE}) {
                Check.due("set far", x.set(what, far), -1);
            }
        }
        for (int what : new int[] {-1, 6, Integer.MIN_VALUE, Integer.MAX_VALUE}) {
            Check.due("set(" + what + ", 5)", x.set(what, 5), -1);
        }
    }

    private static void numbersRefused() {
        SixWhoTurn x = new SixWhoTurn();
        x.set(0, 5);
        x.set(1, 5);
        x.lineUp(0, 0, 1, 2, 3, 4, 5);
        Check.due("set behind a line-up", x.set(4, 5), 6);
        Check.start(x, 0, 0);
        for (int what = 0; what < 6; what++) {
            Check.due("set in a set", x.set(what, 5 - what % 3), -1);
        }
        Check.rallies(x, "AAAAA", 1);
        Check.due("set between sets", x.set(2, 6), -1);
    }

    private static void goalAndCap() {
        SixWhoTurn x = new SixWhoTurn();
        Check.due("cap below the goal", x.set(1, 24), -1);
        Check.due("cap at the goal", x.set(1, 25), 30);
        Check.due("a lower goal", x.set(0, 10), 25);
        Check.due("a lower cap", x.set(1, 12), 25);
        Check.due("a goal above the cap", x.set(0, 13), -1);
        Check.due("a goal at the cap", x.set(0, 12), 10);
        Check.due("a cap below that", x.set(1, 11), -1);
        Check.due("last above the cap", x.set(2, 25), 15);
        Check.due("the cap stayed", x.set(1, 30), 12);
        Check.due("the goal stayed", x.set(0, 5), 12);
    }
}
