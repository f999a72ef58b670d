/** Promises 5 to 16: lineUp, begin, rally, may, change, free, pause, wrong, at, of, count, served. */
public final class MatchTest {
    private static final int[] NO_TEAM = {-1, 2, Integer.MIN_VALUE, Integer.MAX_VALUE};
    private static final int[] NO_PLAYER = {-1, 12, Integer.MIN_VALUE, Integer.MAX_VALUE};

    public static void main(String[] args) {
        lineUps();
        begins();
        lineUpWithFreeNamedLater();
        turns();
        setsAreWon();
        capEndsASet();
        decidingSet();
        lastAboveCap();
        oneSetHasNoLast();
        setStaysTillTheNext();
        mays();
        mayOrder();
        changes();
        changesAreCounted();
        changesOfFree();
        frees();
        freeOncePerRally();
        freeComesOffInFront();
        pauses();
        wrongs();
        wrongEndsASet();
        noSuch();
        servedCounts();
        Check.finish();
    }

    private static SixWhoTurn small(int goal, int cap) {
        SixWhoTurn x = new SixWhoTurn();
        x.set(0, goal);
        x.set(1, cap);
        return x;
    }

    private static void lineUps() {
        SixWhoTurn x = new SixWhoTurn();
        for (int team : NO_TEAM) {
            Check.due("lineUp of no team", x.lineUp(team, 0, 1, 2, 3, 4, 5), false);
        }
        for (int bad : NO_PLAYER) {
            Check.due("lineUp a", x.lineUp(0, bad, 1, 2, 3, 4, 5), false);
            Check.due("lineUp b", x.lineUp(0, 0, bad, 2, 3, 4, 5), false);
            Check.due("lineUp c", x.lineUp(0, 0, 1, bad, 3, 4, 5), false);
            Check.due("lineUp d", x.lineUp(0, 0, 1, 2, bad, 4, 5), false);
            Check.due("lineUp e", x.lineUp(0, 0, 1, 2, 3, bad, 5), false);
            Check.due("lineUp f", x.lineUp(0, 0, 1, 2, 3, 4, bad), false);
        }
        for (int k = 0; k < 6; k++) {
            for (int j = 0; j < k; j++) {
                int[] p = {0, 1, 2, 3, 4, 5};
                p[k] = p[j];
                Check.due("lineUp with one twice", x.lineUp(0, p[0], p[1], p[2], p[3], p[4], p[5]), false);
            }
        }
        Check.due("no refused one was told", x.turn(0, 0), -1);
        x.libre(0, 9);
        Check.due("lineUp with FREE", x.lineUp(0, 9, 1, 2, 3, 4, 5), false);
        Check.due("lineUp of the other's FREE", x.lineUp(1, 9, 1, 2, 3, 4, 5), true);
        Check.due("lineUp", x.lineUp(0, 11, 1, 2, 3, 4, 0), true);
        Check.due("a refused one later", x.lineUp(0, 1, 1, 2, 3, 4, 0), false);
        Check.due("begin", x.begin(1), 0);
        Check.six(x, 0, 11, 1, 2, 3, 4, 0);
        Check.six(x, 1, 9, 1, 2, 3, 4, 5);
        Check.due("lineUp in a set", x.lineUp(0, 0, 1, 2, 3, 4, 5), false);
    }

    private static void begins() {
        SixWhoTurn x = small(5, 5);
        Check.due("begin with none", x.begin(0), -1);
        x.lineUp(1, 0, 1, 2, 3, 4, 5);
        Check.due("begin with one", x.begin(0), -1);
        x.lineUp(0, 6, 7, 8, 9, 10, 11);
        x.lineUp(0, 5, 4, 3, 2, 1, 0);
        for (int team : NO_TEAM) {
            Check.due("begin of no team", x.begin(team), -1);
        }
        Check.due("none was begun", x.count(0), -1);
        Check.due("begin", x.begin(1), 0);
        Check.six(x, 0, 5, 4, 3, 2, 1, 0);
        Check.due("who serves", x.count(2), 1);
        Check.due("begin in a set", x.begin(1), -1);
        Check.rallies(x, "BBBBB", 1);
        Check.due("begin with none told since", x.begin(1), -1);
        x.lineUp(0, 0, 1, 2, 3, 4, 5);
        Check.due("begin with one told since", x.begin(1), -1);
        Check.due("the old six stay", x.at(0, 0), 5);
        x.lineUp(1, 0, 1, 2, 3, 4, 5);
        Check.due("begin", x.begin(0), 1);
        Check.due("who serves now", x.count(2), 0);
        Check.due("at now", x.at(0, 0), 0);
        Check.due("no points since", x.of(0, 5), 0);
        Check.rallies(x, "AAAAA", 1);
        x.lineUp(1, 0, 1, 2, 3, 4, 5);
        Check.due("begin with the other one told since", x.begin(1), -1);
    }

    private static void lineUpWithFreeNamedLater() {
        for (int team = 0; team < 2; team++) {
            for (int player = 0; player < 6; player++) {
                SixWhoTurn x = new SixWhoTurn();
                x.lineUp(0, 0, 1, 2, 3, 4, 5);
                x.lineUp(1, 0, 1, 2, 3, 4, 5);
                Check.due("libre in the line-up", x.libre(team, player), -1);
                Check.due("begin with FREE in it", x.begin(0), -1);
                Check.due("libre beside it", x.libre(team, 6), player);
                Check.due("begin", x.begin(0), 0);
            }
        }
    }

    private static void turns() {
        SixWhoTurn x = new SixWhoTurn();
        Check.start(x, 0, 0);
        Check.rallies(x, "A", 0);
        Check.six(x, 0, 0, 1, 2, 3, 4, 5);
        Check.rallies(x, "B", 0);
        Check.six(x, 1, 7, 8, 9, 10, 11, 6);
        Check.six(x, 0, 0, 1, 2, 3, 4, 5);
        Check.rallies(x, "AB", 0);
        Check.six(x, 0, 1, 2, 3, 4, 5, 0);
        Check.six(x, 1, 8, 9, 10, 11, 6, 7);
        Check.rallies(x, "ABABABABABA", 0);
        Check.six(x, 0, 1, 2, 3, 4, 5, 0);
        Check.due("turns of 0", x.of(0, 6), 7);
        Check.due("turns of 1", x.of(1, 6), 7);
        Check.due("rallies", x.count(3), 15);
        for (int team : NO_TEAM) {
            Check.due("rally of no team", x.rally(team), -1);
        }
        Check.due("rallies stay", x.count(3), 15);
    }

    private static void setsAreWon() {
        SixWhoTurn x = small(5, 9);
        Check.start(x, 0, 0);
        Check.rallies(x, "AAAABBBB", 0);
        Check.rallies(x, "A", 0);
        Check.rallies(x, "B", 0);
        Check.rallies(x, "BB", 1);
        Check.due("points of 1", x.of(1, 0), 7);
        Check.due("points of 0", x.of(0, 0), 5);
        Check.due("sets of 1", x.of(1, 1), 1);
        Check.due("sets of 0", x.of(0, 1), 0);
        Check.due("won by", x.count(7), 1);
        Check.due("rally behind a set", x.rally(0), -1);
        Check.due("match", x.count(4), -1);
        Check.start(x, 1, 1);
        Check.due("won by none", x.count(7), -1);
        Check.rallies(x, "BBBAB", 0);
        Check.rallies(x, "B", 2);
        Check.due("match won", x.count(4), 1);
        Check.due("set", x.count(0), 1);
        Check.due("won by", x.count(7), 1);
        Check.due("on", x.count(1), 0);
        Check.due("lineUp behind the match", x.lineUp(0, 0, 1, 2, 3, 4, 5), false);
        Check.due("begin behind the match", x.begin(0), -1);
    }

    private static void capEndsASet() {
        SixWhoTurn x = small(5, 7);
        Check.start(x, 0, 0);
        Check.rallies(x, "AAAABBBBABABA", 1);
        Check.due("seven", x.of(0, 0), 7);
        Check.due("six", x.of(1, 0), 6);
    }

    private static void decidingSet() {
        SixWhoTurn x = small(7, 30);
        x.set(2, 5);
        x.set(3, 3);
        String[] seven = {"AAAAAAA", "BBBBBBB", "AAAAAAA", "BBBBBBB"};
        for (int k = 0; k < 4; k++) {
            Check.start(x, 0, k);
            Check.rallies(x, seven[k], 1);
        }
        Check.due("sets of 0", x.of(0, 1), 2);
        Check.start(x, 0, 4);
        Check.rallies(x, "BBBBB", 2);
        Check.due("match", x.count(4), 1);
        Check.due("sets of 1", x.of(1, 1), 3);

        SixWhoTurn far = small(5, 30);
        far.set(2, 8);
        Check.start(far, 0, 0);
        Check.rallies(far, "AAAAA", 1);
        Check.start(far, 0, 1);
        Check.rallies(far, "BBBBB", 1);
        Check.start(far, 0, 2);
        Check.rallies(far, "AAAAAAABBBBBBBAB", 0);
        Check.rallies(far, "AA", 2);
    }

    private static void lastAboveCap() {
        SixWhoTurn x = small(5, 6);
        x.set(2, 25);
        Check.start(x, 0, 0);
        Check.rallies(x, "AAAAA", 1);
        Check.start(x, 0, 1);
        Check.rallies(x, "BBBBB", 1);
        Check.start(x, 0, 2);
        Check.rallies(x, "AAAAA", 0);
        Check.due("chance at the cap's brink", x.chance() > 900000000, true);
        Check.rallies(x, "A", 2);
    }

    private static void oneSetHasNoLast() {
        SixWhoTurn x = small(7, 30);
        x.set(2, 5);
        x.set(3, 1);
        Check.start(x, 0, 0);
        Check.rallies(x, "AAAAAAA", 2);
    }

    private static void setStaysTillTheNext() {
        SixWhoTurn x = small(5, 5);
        x.libre(0, 11);
        x.lineUp(0, 0, 1, 2, 3, 4, 5);
        x.lineUp(1, 0, 1, 2, 3, 4, 5);
        x.begin(1);
        x.change(0, 1, 6);
        x.pause(0);
        Check.rallies(x, "AAAA", 0);
        Check.due("free", x.free(0, 5), 4);
        Check.due("rally", x.rally(0), 1);
        Check.due("libre between", x.libre(0, 10), 11);
        Check.six(x, 0, 6, 2, 3, 4, 11, 0);
        int[] of = {5, 1, 1, 1, 5, 4, 1};
        for (int what = 0; what < 7; what++) {
            Check.due("of(0, " + what + ") of the set that is over", x.of(0, what), of[what]);
        }
        Check.due("rallies", x.count(3), 5);
        Check.due("who serves", x.count(2), -1);
        Check.due("may", x.may(0, 6, 1), 1);
        Check.due("change", x.change(0, 6, 1), -1);
        Check.due("free", x.free(0, -1), -1);
        Check.due("pause", x.pause(0), -1);
        Check.due("wrong", x.wrong(0), -1);
        Check.due("odds", x.odds(0, 0, 0), -1);
        Check.start(x, 1, 1);
        int[] next = {0, 1, 0, 0, -1, 0, 0};
        for (int what = 0; what < 7; what++) {
            Check.due("of(0, " + what + ") of the next set", x.of(0, what), next[what]);
        }
        Check.due("rallies", x.count(3), 0);
        Check.due("may again", x.may(0, 1, 6), 0);
        Check.due("the new FREE", x.may(0, 1, 10), 4);
    }

    private static void mays() {
        SixWhoTurn x = new SixWhoTurn();
        for (int team : NO_TEAM) {
            Check.due("may of no team", x.may(team, 0, 1), -1);
        }
        Check.due("may with no set", x.may(0, 0, 6), 1);
        Check.due("may with no set, no players", x.may(1, 99, 99), 1);
        Check.start(x, 0, 0);
        for (int team : NO_TEAM) {
            Check.due("may of no team", x.may(team, 0, 6), -1);
        }
        for (int bad : NO_PLAYER) {
            Check.due("may out", x.may(0, bad, 6), 2);
            Check.due("may in", x.may(0, 0, bad), 2);
        }
        Check.due("one alone", x.may(0, 0, 0), 2);
        Check.due("one alone, not on", x.may(0, 7, 7), 2);
        Check.due("not on", x.may(0, 7, 8), 3);
        Check.due("on both", x.may(0, 0, 5), 4);
        Check.due("may", x.may(0, 0, 11), 0);
        Check.due("may of 1", x.may(1, 11, 0), 0);
        Check.due("out of 1", x.may(1, 0, 11), 3);
        Check.due("asking changes nothing", x.of(0, 2), 0);
        Check.due("nor who is on", x.at(0, 0), 0);
    }

    /** The first of the reasons is told where several hold. */
    private static void mayOrder() {
        SixWhoTurn x = new SixWhoTurn();
        x.set(4, 0);
        x.libre(0, 11);
        Check.start(x, 0, 0);
        Check.due("2 ahead of 3", x.may(0, 11, 12), 2);
        Check.due("3 ahead of 4", x.may(0, 11, 0), 3);
        Check.due("3 ahead of 4 and 5", x.may(0, 6, 0), 3);
        Check.due("4 ahead of 5", x.may(0, 0, 11), 4);
        Check.due("4 ahead of 5", x.may(0, 0, 1), 4);
        Check.due("5", x.may(0, 0, 6), 5);
        SixWhoTurn y = new SixWhoTurn();
        y.set(4, 1);
        Check.start(y, 0, 0);
        y.change(0, 0, 6);
        Check.due("5 ahead of 6", y.may(0, 6, 7), 5);
        Check.due("5 back too", y.may(0, 6, 0), 5);
        Check.due("the other team's are its own", y.may(1, 6, 0), 0);
    }

    private static void changes() {
        SixWhoTurn x = new SixWhoTurn();
        x.set(4, 12);
        Check.start(x, 0, 0);
        Check.due("change", x.change(0, 3, 8), 3);
        Check.six(x, 0, 0, 1, 2, 8, 4, 5);
        Check.due("out again", x.change(0, 3, 8), -1);
        Check.due("for another one of the line-up", x.change(0, 4, 3), -1);
        Check.due("why", x.may(0, 4, 3), 6);
        Check.due("the new one for a third", x.may(0, 8, 9), 6);
        Check.due("the new one for a starter that is on", x.may(0, 8, 4), 4);
        Check.due("another change", x.change(0, 4, 9), 4);
        Check.due("crosswise", x.may(0, 8, 4), 6);
        Check.due("crosswise too", x.may(0, 9, 3), 6);
        x.rally(1);
        x.rally(0);
        Check.due("back, where it stands now", x.change(0, 8, 3), 2);
        Check.six(x, 0, 1, 2, 3, 9, 5, 0);
        Check.due("never again", x.may(0, 3, 8), 6);
        Check.due("nor another", x.may(0, 3, 10), 6);
        Check.due("nor the other one", x.may(0, 5, 8), 6);
        Check.due("done", x.of(0, 2), 3);
        Check.due("of the other team", x.of(1, 2), 0);
        Check.due("the same players of the other team", x.change(1, 8, 3), 1);
    }

    private static void changesAreCounted() {
        SixWhoTurn x = small(5, 5);
        Check.start(x, 0, 0);
        for (int k = 0; k < 6; k++) {
            Check.due("change " + k, x.change(0, k, 6 + k), k);
        }
        Check.due("gone", x.may(0, 6, 0), 5);
        Check.due("refused", x.change(0, 6, 0), -1);
        Check.due("done", x.of(0, 2), 6);
        Check.rallies(x, "AAAAA", 1);
        Check.due("serves of who came in", x.served(0, 6), 5);
        Check.start(x, 0, 1);
        Check.due("a new set", x.change(0, 0, 6), 0);
    }

    private static void changesOfFree() {
        SixWhoTurn x = new SixWhoTurn();
        x.libre(0, 11);
        Check.start(x, 0, 0);
        Check.due("FREE out", x.may(0, 11, 6), 3);
        Check.due("FREE in", x.may(0, 4, 11), 4);
        Check.due("who 1's 11 is", x.may(1, 11, 0), 0);
        x.free(0, 4);
        Check.due("FREE out, on", x.may(0, 11, 6), 3);
        Check.due("who makes room", x.may(0, 4, 6), 3);
        Check.due("who makes room, in", x.may(0, 5, 4), 4);
        Check.due("FREE in, on", x.may(0, 5, 11), 4);
        x.change(0, 5, 7);
        x.rally(0);
        Check.due("off", x.free(0, -1), 4);
        x.rally(0);
        Check.due("for who came in", x.free(0, 7), 5);
        Check.due("back is not now", x.may(0, 7, 5), 3);
        x.rally(0);
        x.free(0, -1);
        Check.due("FREE is no change", x.may(0, 4, 6), 0);
        Check.due("back", x.change(0, 7, 5), 5);
        Check.due("done", x.of(0, 2), 2);
    }

    private static void frees() {
        SixWhoTurn x = new SixWhoTurn();
        x.libre(0, 11);
        Check.due("no set", x.free(0, 4), -1);
        Check.start(x, 0, 0);
        for (int team : NO_TEAM) {
            Check.due("free of no team", x.free(team, 4), -1);
        }
        for (int player : new int[] {-2, 12, Integer.MIN_VALUE, Integer.MAX_VALUE, 6, 11, 0, 1, 2, 3}) {
            Check.due("free for " + player, x.free(0, player), -1);
        }
        Check.due("not on", x.free(0, -1), -1);
        Check.due("no FREE", x.free(1, 10), -1);
        Check.due("no FREE, off", x.free(1, -1), -1);
        Check.due("for 5", x.free(0, 5), 5);
        Check.six(x, 0, 0, 1, 2, 3, 4, 11);
        Check.due("stands for", x.of(0, 4), 5);
        Check.due("stands for of 1", x.of(1, 4), -1);
        x.rally(0);
        Check.due("on already", x.free(0, 4), -1);
        Check.due("on already for it", x.free(0, 5), -1);
        Check.due("on already for FREE", x.free(0, 11), -1);
        Check.due("off", x.free(0, -1), 5);
        Check.six(x, 0, 0, 1, 2, 3, 4, 5);
        Check.due("stands for", x.of(0, 4), -1);
    }

    private static void freeOncePerRally() {
        SixWhoTurn x = new SixWhoTurn();
        x.libre(0, 11);
        x.libre(1, 0);
        Check.start(x, 0, 0);
        Check.due("on", x.free(0, 4), 4);
        Check.due("off at once", x.free(0, -1), -1);
        Check.due("the other team may", x.free(1, 10), 4);
        x.rally(0);
        Check.due("off", x.free(0, -1), 4);
        Check.due("on at once", x.free(0, 4), -1);
        Check.due("stands for", x.of(0, 4), -1);
        Check.due("the other one off", x.free(1, -1), 4);
        Check.due("a wrong server is a rally", x.wrong(0), 0);
        Check.due("on", x.free(0, 4), 4);
        Check.due("on of 1", x.free(1, 11), 4);
        SixWhoTurn y = small(5, 5);
        y.libre(0, 11);
        Check.start(y, 0, 0);
        Check.rallies(y, "BBBB", 0);
        Check.due("on", y.free(0, 4), 4);
        y.rally(1);
        Check.start(y, 0, 1);
        Check.due("off in the new set", y.of(0, 4), -1);
        Check.due("ahead of its first rally", y.free(0, 4), 4);
    }

    private static void freeComesOffInFront() {
        SixWhoTurn x = new SixWhoTurn();
        x.libre(0, 11);
        Check.start(x, 1, 0);
        Check.due("on", x.free(0, 5), 5);
        x.rally(0);
        Check.six(x, 0, 1, 2, 3, 4, 11, 0);
        Check.due("stands for", x.of(0, 4), 5);
        x.rally(0);
        Check.six(x, 0, 1, 2, 3, 4, 11, 0);
        x.rally(1);
        x.rally(0);
        Check.six(x, 0, 2, 3, 4, 5, 0, 1);
        Check.due("stands for nobody", x.of(0, 4), -1);
        Check.due("that is not counted", x.free(0, 0), 4);
        Check.due("this is", x.free(0, -1), -1);
        x.wrong(0);
        x.wrong(0);
        Check.due("a wrong server turns too", x.of(0, 4), -1);
        Check.six(x, 0, 3, 4, 5, 0, 1, 2);
    }

    private static void pauses() {
        SixWhoTurn x = small(5, 5);
        x.set(5, 3);
        Check.due("no set", x.pause(0), -1);
        Check.start(x, 0, 0);
        for (int team : NO_TEAM) {
            Check.due("pause of no team", x.pause(team), -1);
        }
        for (int k = 1; k <= 3; k++) {
            Check.due("pause", x.pause(1), k);
        }
        Check.due("gone", x.pause(1), -1);
        Check.due("had", x.of(1, 3), 3);
        Check.due("of 0", x.of(0, 3), 0);
        Check.rallies(x, "AAAAA", 1);
        Check.due("behind the set", x.pause(0), -1);
        Check.start(x, 0, 1);
        Check.due("a new set", x.pause(1), 1);
        SixWhoTurn y = new SixWhoTurn();
        y.set(5, 0);
        Check.start(y, 0, 0);
        Check.due("none at all", y.pause(0), -1);
    }

    private static void wrongs() {
        SixWhoTurn x = new SixWhoTurn();
        Check.due("no set", x.wrong(0), -1);
        Check.start(x, 0, 0);
        Check.rallies(x, "AAA", 0);
        Check.due("streak", x.of(0, 5), 3);
        for (int k : new int[] {-1, 4, Integer.MIN_VALUE, Integer.MAX_VALUE}) {
            Check.due("wrong(" + k + ")", x.wrong(k), -1);
        }
        Check.due("nothing fell", x.of(0, 0), 3);
        Check.due("wrong", x.wrong(2), 0);
        Check.due("points of 0", x.of(0, 0), 1);
        Check.due("points of 1", x.of(1, 0), 1);
        Check.due("who serves", x.count(2), 1);
        Check.six(x, 1, 7, 8, 9, 10, 11, 6);
        Check.six(x, 0, 0, 1, 2, 3, 4, 5);
        Check.due("rallies", x.count(3), 4);
        Check.due("served all the same", x.served(0, 0), 3);
        Check.due("turns", x.of(1, 6), 1);
        Check.due("streak of 1", x.of(1, 5), 0);
        Check.due("streak of 0", x.of(0, 5), 0);
        Check.due("the point of its turn stays", x.wrong(1), -1);
        Check.rallies(x, "BB", 0);
        Check.due("streak of 1", x.of(1, 5), 2);
        Check.due("all fall", x.wrong(2), 0);
        Check.due("points of 1", x.of(1, 0), 1);
        Check.due("points of 0", x.of(0, 0), 2);
    }

    private static void wrongEndsASet() {
        SixWhoTurn x = small(5, 30);
        Check.start(x, 0, 0);
        Check.rallies(x, "BBBBAAA", 0);
        Check.due("a set by falling points", x.wrong(2), 1);
        Check.due("won by", x.count(7), 1);
        Check.due("points of 1", x.of(1, 0), 5);
        Check.due("points of 0", x.of(0, 0), 1);
        Check.start(x, 0, 1);
        Check.rallies(x, "BBBBAAA", 0);
        Check.due("and the match", x.wrong(2), 2);
        Check.due("match", x.count(4), 1);
        SixWhoTurn y = small(5, 30);
        Check.start(y, 0, 0);
        Check.rallies(y, "BBBBAAAA", 0);
        Check.due("one ahead is not enough", y.wrong(0), 0);
        Check.due("points of 1", y.of(1, 0), 5);
    }

    private static void noSuch() {
        SixWhoTurn x = new SixWhoTurn();
        Check.start(x, 0, 0);
        for (int team : NO_TEAM) {
            Check.due("at of no team", x.at(team, 0), -1);
            Check.due("of no team", x.of(team, 0), -1);
            Check.due("served of no team", x.served(team, 0), -1);
        }
        for (int bad : new int[] {-1, 6, Integer.MIN_VALUE, Integer.MAX_VALUE}) {
            Check.due("at no place", x.at(0, bad), -1);
        }
        for (int bad : new int[] {-1, 7, Integer.MIN_VALUE, Integer.MAX_VALUE}) {
            Check.due("of another what", x.of(0, bad), -1);
        }
        for (int bad : new int[] {-1, 8, Integer.MIN_VALUE, Integer.MAX_VALUE}) {
            Check.due("count of another what", x.count(bad), -1);
        }
        for (int bad : NO_PLAYER) {
            Check.due("served of no player", x.served(0, bad), -1);
        }
    }

    private static void servedCounts() {
        SixWhoTurn x = small(5, 5);
        Check.start(x, 0, 0);
        Check.rallies(x, "AABBAAA", 1);
        Check.due("first server", x.served(0, 0), 2);
        Check.due("second server", x.served(0, 1), 2);
        Check.due("of 1", x.served(1, 7), 1);
        Check.due("who only turned in", x.served(1, 6), 0);
        Check.due("the same number of the other team", x.served(1, 0), 0);
        Check.start(x, 0, 1);
        Check.rallies(x, "A", 0);
        Check.due("all sets", x.served(0, 0), 3);
    }
}
