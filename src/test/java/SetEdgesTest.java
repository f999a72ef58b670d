/** The boundaries that promises 5 to 7, 12 to 16 and Terms 2 name: line-ups, sets, the match, wrong servers. */
public final class SetEdgesTest {
    private static final int[] NO_TEAM = {-2, -1, 2, 3};

    public static void main(String[] args) {
        lineUpOfEveryPlayer();
        lineUpWithoutFree();
        lineUpByState();
        theLastLineUpHolds();
        beginWantsBoth();
        beginNumbersTheSets();
        beginStartsAllAnew();
        theTurnComesRound();
        everyScoreOfASet();
        everyScoreOfTheLastSet();
        whichSetIsToLast();
        setsThatWinTheMatch();
        rallyByState();
        wrongFromNoughtToAll();
        wrongSinceItCameToServe();
        wrongEndsSets();
        wrongIsARally();
        atByState();
        ofByState();
        countByState();
        servedOfServesAlone();
        fiveHundredAndTwelveCalls();
        Check.finish();
    }

    private static SixWhoTurn match(int goal, int cap, int last, int sets) {
        SixWhoTurn x = new SixWhoTurn();
        Check.due("GOAL", x.set(0, goal), 25);
        Check.due("CAP", x.set(1, cap), 30);
        Check.due("LAST", x.set(2, last), 15);
        Check.due("SETS", x.set(3, sets), 2);
        return x;
    }

    private static String times(String s, int n) {
        return s.repeat(Math.max(0, n));
    }

    /** Rallies to a score that does not end the SET, with no lead greater than need be. */
    private static String toScore(int a, int b) {
        int both = Math.min(a, b);
        return times("AB", both) + times("A", a - both) + times("B", b - both);
    }

    // ---- promise 5

    /** "six unlike PLAYERS ... at PLACES 0 .. 5": each PLAYER at each PLACE, and who is none. */
    private static void lineUpOfEveryPlayer() {
        for (int place = 0; place < 6; place++) {
            for (int player = -2; player <= 13; player++) {
                int[] p = new int[6];
                for (int k = 0; k < 6; k++) {
                    p[k] = player < 6 ? 6 + k : k;
                }
                p[place] = player;
                boolean such = player >= 0 && player <= 11;
                for (int team = 0; team < 2; team++) {
                    SixWhoTurn x = new SixWhoTurn();
                    Check.due("lineUp", x.lineUp(team, p[0], p[1], p[2], p[3], p[4], p[5]), such);
                    Check.due("lineUp of the other", x.lineUp(1 - team, 0, 1, 2, 3, 4, 5), true);
                    Check.due("begin", x.begin(0), such ? 0 : -1);
                    Check.due("at", x.at(team, place), such ? player : -1);
                }
            }
        }
    }

    /** "none FREE", at any PLACE, of this TEAM alone. */
    private static void lineUpWithoutFree() {
        for (int team = 0; team < 2; team++) {
            for (int free = 0; free < 12; free++) {
                SixWhoTurn x = new SixWhoTurn();
                x.libre(team, free);
                Check.due("0 .. 5, FREE " + free, x.lineUp(team, 0, 1, 2, 3, 4, 5), free > 5);
                Check.due("6 .. 11, FREE " + free, x.lineUp(team, 6, 7, 8, 9, 10, 11), free < 6);
                Check.due("0 .. 5 of the other", x.lineUp(1 - team, 0, 1, 2, 3, 4, 5), true);
                Check.due("6 .. 11 of the other", x.lineUp(1 - team, 6, 7, 8, 9, 10, 11), true);
            }
        }
    }

    /** "Refused: others, a SET is on, THE MATCH is won." */
    private static void lineUpByState() {
        SixWhoTurn x = match(5, 5, 5, 2);
        for (int team : NO_TEAM) {
            Check.due("no such TEAM", x.lineUp(team, 0, 1, 2, 3, 4, 5), false);
        }
        Check.start(x, 0, 0);
        for (int team = 0; team < 2; team++) {
            Check.due("a SET is on", x.lineUp(team, 0, 1, 2, 3, 4, 5), false);
        }
        Check.rallies(x, "AAAA", 0);
        Check.due("a SET is on still", x.lineUp(0, 0, 1, 2, 3, 4, 5), false);
        Check.rallies(x, "A", 1);
        Check.start(x, 0, 1);
        Check.rallies(x, "AAAAA", 2);
        for (int team = 0; team < 2; team++) {
            Check.due("THE MATCH is won", x.lineUp(team, 0, 1, 2, 3, 4, 5), false);
        }
    }

    /** A LINE-UP told again takes the place of the earlier one; a refused one does not. */
    private static void theLastLineUpHolds() {
        SixWhoTurn x = new SixWhoTurn();
        x.lineUp(0, 0, 1, 2, 3, 4, 5);
        x.lineUp(1, 0, 1, 2, 3, 4, 5);
        Check.due("again", x.lineUp(0, 11, 10, 9, 8, 7, 6), true);
        Check.due("refused", x.lineUp(0, 1, 2, 3, 4, 5, 12), false);
        Check.due("refused", x.lineUp(0, 5, 4, 3, 2, 1, 1), false);
        Check.due("begin", x.begin(0), 0);
        Check.six(x, 0, 11, 10, 9, 8, 7, 6);
        Check.six(x, 1, 0, 1, 2, 3, 4, 5);
    }

    // ---- promise 6

    /** "both LINE-UPS told since the last one, without FREE" */
    private static void beginWantsBoth() {
        for (int set = 0; set < 3; set++) {
            for (int told = 0; told < 4; told++) {
                for (int team = -2; team <= 3; team++) {
                    SixWhoTurn x = match(5, 5, 5, 2);
                    for (int k = 0; k < set; k++) {
                        Check.start(x, k, k);
                        Check.rallies(x, k == 0 ? "AAAAA" : "BBBBB", 1);
                    }
                    for (int t = 0; t < 2; t++) {
                        if ((told >> t & 1) == 1) {
                            x.lineUp(t, 0, 1, 2, 3, 4, 5);
                        }
                    }
                    boolean taken = told == 3 && (team == 0 || team == 1);
                    Check.due("begin(" + team + "), told " + told, x.begin(team), taken ? set : -1);
                    Check.due("a SET is on", x.count(1), taken ? 1 : 0);
                    Check.due("who serves", x.count(2), taken ? team : -1);
                    Check.due("number of the SET", x.count(0), taken ? set : set - 1);
                }
            }
        }
        SixWhoTurn x = new SixWhoTurn();
        Check.start(x, 0, 0);
        Check.due("a SET is on", x.begin(0), -1);
        Check.due("a SET is on", x.begin(1), -1);
        Check.due("who serves stays", x.count(2), 0);
        withFreeNamedLater();
    }

    private static void withFreeNamedLater() {
        for (int team = 0; team < 2; team++) {
            for (int player = 0; player < 12; player++) {
                SixWhoTurn x = new SixWhoTurn();
                x.lineUp(0, 0, 1, 2, 3, 4, 5);
                x.lineUp(1, 0, 1, 2, 3, 4, 5);
                x.libre(team, player);
                Check.due("begin, FREE " + player, x.begin(1), player < 6 ? -1 : 0);
                if (player < 6) {
                    Check.due("nobody is", x.libre(team, -1), player);
                    Check.due("the LINE-UPS are still told", x.begin(1), 0);
                }
            }
        }
    }

    /** "the number of the SET, from 0 on": to the fifth one. */
    private static void beginNumbersTheSets() {
        SixWhoTurn x = match(5, 5, 5, 3);
        String[] won = {"AAAAA", "BBBBB", "BBBBB", "AAAAA", "BBBBB"};
        for (int k = 0; k < 5; k++) {
            Check.start(x, k % 2, k);
            Check.due("number", x.count(0), k);
            Check.rallies(x, won[k], k == 4 ? 2 : 1);
            Check.due("number stays", x.count(0), k);
            Check.due("who won it", x.count(7), won[k].charAt(0) - 'A');
        }
        Check.due("THE MATCH is won", x.begin(0), -1);
        Check.due("number", x.count(0), 4);
    }

    private static void beginStartsAllAnew() {
        SixWhoTurn x = match(5, 30, 5, 2);
        x.libre(1, 5);
        Check.start(x, 0, 0);
        x.change(0, 0, 6);
        x.pause(1);
        Check.rallies(x, "BBA", 0);
        Check.due("FREE on", x.free(1, 6), 5);
        Check.rallies(x, "BBB", 1);
        Check.due("FREE stays", x.of(1, 4), 6);
        Check.start(x, 0, 1);
        for (int team = 0; team < 2; team++) {
            int[] due = {0, team, 0, 0, -1, 0, 0};
            for (int what = 0; what < 7; what++) {
                Check.due("of(" + team + ", " + what + ")", x.of(team, what), due[what]);
            }
        }
        Check.due("RALLIES", x.count(3), 0);
        Check.due("who won", x.count(7), -1);
        Check.six(x, 0, 0, 1, 2, 3, 4, 5);
        Check.six(x, 1, 6, 7, 8, 9, 10, 11);
    }

    // ---- promise 7

    /** "who is at PLACE k comes to k - 1, who is at 0 to 5" */
    private static void theTurnComesRound() {
        for (int team = 0; team < 2; team++) {
            SixWhoTurn x = new SixWhoTurn();
            Check.start(x, 1 - team, 0);
            for (int turns = 1; turns <= 13; turns++) {
                x.rally(team);
                Check.due("TURNS", x.of(team, 6), turns);
                for (int place = 0; place < 6; place++) {
                    Check.due("at", x.at(team, place), 6 * team + (place + turns) % 6);
                    Check.due("at of the other", x.at(1 - team, place), 6 * (1 - team) + (place + turns - 1) % 6);
                }
                x.rally(1 - team);
            }
            Check.due("TURNS of who served first", x.of(1 - team, 6), 13);
        }
    }

    private static boolean over(int own, int others, int target, int cap) {
        return own >= cap || own >= target && own >= others + 2;
    }

    /** "who has so many, and two more than the other, wins it; or who has CAP" */
    private static void everyScoreOfASet() {
        for (int[] g : new int[][] {{5, 5}, {5, 6}, {5, 7}, {5, 30}, {24, 26}, {25, 25}, {25, 26}, {25, 30}}) {
            for (int a = 0; a < g[1]; a++) {
                for (int b = 0; b < g[1]; b++) {
                    if (!over(a, b, g[0], g[1]) && !over(b, a, g[0], g[1])) {
                        fromScore(match(g[0], g[1], 15, 2), 0, a, b, g[0], g[1]);
                    }
                }
            }
        }
    }

    /** The same to LAST, which may be below GOAL, above it, or above CAP. */
    private static void everyScoreOfTheLastSet() {
        for (int[] g : new int[][] {{5, 8, 7}, {5, 6, 15}, {6, 9, 5}, {5, 5, 5}, {5, 30, 25}}) {
            for (int a = 0; a < g[1]; a++) {
                for (int b = 0; b < g[1]; b++) {
                    if (!over(a, b, g[2], g[1]) && !over(b, a, g[2], g[1])) {
                        SixWhoTurn x = match(g[0], g[1], g[2], 2);
                        Check.start(x, 0, 0);
                        Check.rallies(x, times("A", g[0]), 1);
                        Check.start(x, 0, 1);
                        Check.rallies(x, times("B", g[0]), 1);
                        fromScore(x, 2, a, b, g[2], g[1]);
                    }
                }
            }
        }
    }

    /** The next RALLY of TEAM 0, or of TEAM 1 with the score turned round. */
    private static void fromScore(SixWhoTurn x, int set, int a, int b, int target, int cap) {
        int winner = (a + b) % 2;
        Check.start(x, b % 2, set);
        Check.rallies(x, winner == 0 ? toScore(a, b) : toScore(b, a), 0);
        boolean ends = over(a + 1, b, target, cap);
        String score = a + 1 + ":" + b + " to " + target + ", cap " + cap;
        Check.due(score, x.rally(winner), !ends ? 0 : set == 2 ? 2 : 1);
        Check.due(score + ", points", x.of(winner, 0) * 100 + x.of(1 - winner, 0), (a + 1) * 100 + b);
        Check.due(score + ", on", x.count(1), ends ? 0 : 1);
        Check.due(score + ", won by", x.count(7), ends ? winner : -1);
    }

    /** "the one that both can win with it (both have SETS less 1, and SETS is above 1) to LAST" */
    private static void whichSetIsToLast() {
        for (int sets = 1; sets <= 3; sets++) {
            for (int won0 = 0; won0 < sets; won0++) {
                for (int won1 = 0; won1 < sets; won1++) {
                    SixWhoTurn x = match(7, 30, 5, sets);
                    boolean decides = sets > 1 && won0 == sets - 1 && won1 == sets - 1;
                    for (int k = 0; k < won0 + won1; k++) {
                        Check.start(x, 0, k);
                        Check.rallies(x, k < won0 ? "AAAAAAA" : "BBBBBBB", 1);
                    }
                    Check.start(x, 1, won0 + won1);
                    int last = won0 == sets - 1 ? 2 : 1;
                    Check.rallies(x, decides ? "AAAAA" : "AAAAAAA", last);
                    Check.due("SETS of 0", x.of(0, 1), won0 + 1);
                    Check.due("SETS of 1", x.of(1, 1), won1);
                    Check.due("THE MATCH", x.count(4), last == 2 ? 0 : -1);
                }
            }
        }
    }

    /** "Who wins SETS SETS wins THE MATCH." */
    private static void setsThatWinTheMatch() {
        for (int sets = 1; sets <= 3; sets++) {
            for (int team = 0; team < 2; team++) {
                SixWhoTurn x = match(5, 5, 5, sets);
                for (int k = 1; k <= sets; k++) {
                    Check.start(x, 0, k - 1);
                    Check.rallies(x, team == 0 ? "AAAAA" : "BBBBB", k == sets ? 2 : 1);
                    Check.due("who won THE MATCH", x.count(4), k == sets ? team : -1);
                    Check.due("who won the SET", x.count(7), team);
                    Check.due("SETS", x.of(team, 1), k);
                }
                Check.due("no next SET", x.lineUp(0, 0, 1, 2, 3, 4, 5), false);
            }
        }
    }

    /** "Refused: none such, no SET is on." */
    private static void rallyByState() {
        SixWhoTurn x = match(5, 5, 5, 1);
        x.lineUp(0, 0, 1, 2, 3, 4, 5);
        x.lineUp(1, 0, 1, 2, 3, 4, 5);
        Check.due("LINE-UPS told alone", x.rally(0), -1);
        Check.due("begin", x.begin(0), 0);
        for (int team : NO_TEAM) {
            Check.due("none such", x.rally(team), -1);
        }
        Check.due("RALLIES", x.count(3), 0);
        Check.rallies(x, "BBBBB", 2);
        Check.due("behind it", x.rally(0), -1);
        Check.due("behind it", x.rally(1), -1);
        Check.due("RALLIES", x.count(3), 5);
    }

    // ---- promise 12

    /** "the last k points (0 .. all won since it came to serve)" */
    private static void wrongFromNoughtToAll() {
        for (int server = 0; server < 2; server++) {
            for (int won = 0; won <= 6; won++) {
                for (int k = -2; k <= won + 2; k++) {
                    SixWhoTurn x = new SixWhoTurn();
                    Check.start(x, server, 0);
                    Check.rallies(x, times(server == 0 ? "A" : "B", won), 0);
                    boolean taken = k >= 0 && k <= won;
                    Check.due("wrong(" + k + ") of " + won, x.wrong(k), taken ? 0 : -1);
                    Check.due("points of who served", x.of(server, 0), taken ? won - k : won);
                    Check.due("points of the other", x.of(1 - server, 0), taken ? 1 : 0);
                    Check.due("who serves", x.count(2), taken ? 1 - server : server);
                    Check.due("TURNS of the other", x.of(1 - server, 6), taken ? 1 : 0);
                    Check.due("TURNS of who served", x.of(server, 6), 0);
                    Check.due("RALLIES", x.count(3), taken ? won + 1 : won);
                    Check.due("those that fell count too", x.served(server, 6 * server), won);
                    Check.due("the other's serves", x.served(1 - server, 7 - 6 * server), 0);
                    Check.due("since it came to serve", x.of(server, 5), taken ? 0 : won);
                    Check.due("the other came just now", x.of(1 - server, 5), 0);
                }
            }
        }
    }

    /** "since it came to serve (in this SET)": the RALLY that brought the serve is none of them. */
    private static void wrongSinceItCameToServe() {
        SixWhoTurn x = match(5, 30, 5, 2);
        Check.start(x, 0, 0);
        Check.rallies(x, "AAB", 0);
        Check.due("none yet", x.wrong(1), -1);
        Check.rallies(x, "A", 0);
        Check.due("none of the time ahead", x.wrong(1), -1);
        Check.rallies(x, "A", 0);
        Check.due("one", x.of(0, 5), 1);
        Check.due("not two", x.wrong(2), -1);
        Check.due("one", x.wrong(1), 0);
        Check.due("points of 0", x.of(0, 0), 3);
        Check.due("points of 1", x.of(1, 0), 2);
        Check.due("the point by a wrong server is none", x.wrong(1), -1);
        Check.due("but 0 may", x.wrong(0), 0);
        Check.rallies(x, "A", 1);
        Check.due("won since", x.of(0, 5), 1);
        Check.start(x, 0, 1);
        Check.due("none of the last SET", x.wrong(1), -1);
        Check.due("none of the last SET", x.of(0, 5), 0);
        Check.due("0 at once", x.wrong(0), 0);
        Check.due("points of 1", x.of(1, 0), 1);
    }

    /** "0, 1, 2 as rally()" */
    private static void wrongEndsSets() {
        for (int sets = 1; sets <= 2; sets++) {
            for (int k = 0; k <= 3; k++) {
                SixWhoTurn x = match(5, 30, 5, sets);
                Check.start(x, 0, 0);
                Check.rallies(x, "BBBBAAAA", 0);
                // 4:4 with three since the serve; 5 - k less than two ahead goes on.
                Check.due("wrong(" + k + ")", x.wrong(k), k == 0 ? 0 : sets == 1 ? 2 : 1);
                Check.due("won by", x.count(7), k == 0 ? -1 : 1);
                Check.due("THE MATCH", x.count(4), k == 0 || sets == 2 ? -1 : 1);
                Check.due("points of 0", x.of(0, 0), 4 - k);
                Check.due("points of 1", x.of(1, 0), 5);
                Check.due("wrong behind it", x.wrong(0), k == 0 ? 0 : -1);
            }
        }
        SixWhoTurn x = match(5, 5, 5, 2);
        Check.start(x, 0, 0);
        Check.rallies(x, "BBBBAAAA", 0);
        Check.due("by CAP", x.wrong(0), 1);
        Check.due("5:4", x.of(1, 0) * 10 + x.of(0, 0), 54);
    }

    /** "that counts as a RALLY that it won": FREE of both may move again, and turns to the front. */
    private static void wrongIsARally() {
        SixWhoTurn x = new SixWhoTurn();
        x.libre(0, 11);
        x.libre(1, 0);
        Check.start(x, 0, 0);
        Check.due("on at 4", x.free(1, 10), 4);
        Check.due("on", x.free(0, 4), 4);
        Check.due("wrong", x.wrong(0), 0);
        Check.due("FREE of 1 came to the front", x.of(1, 4), -1);
        Check.six(x, 1, 7, 8, 9, 10, 11, 6);
        Check.due("FREE of 0 stays", x.of(0, 4), 4);
        Check.due("off", x.free(0, -1), 4);
        Check.due("on again", x.free(1, 11), 4);
    }

    // ---- promises 13 to 16

    /** "NONE: none such, no SET was begun. (A SET that is over stays as it is till the next one.)" */
    private static void atByState() {
        SixWhoTurn x = match(5, 5, 5, 2);
        x.lineUp(0, 0, 1, 2, 3, 4, 5);
        x.lineUp(1, 6, 7, 8, 9, 10, 11);
        for (int place = -1; place <= 6; place++) {
            Check.due("LINE-UPS told alone", x.at(0, place), -1);
        }
        x.begin(1);
        for (int place = -2; place <= 7; place++) {
            boolean such = place >= 0 && place <= 5;
            Check.due("at(0, " + place + ")", x.at(0, place), such ? place : -1);
            Check.due("at(1, " + place + ")", x.at(1, place), such ? place + 6 : -1);
            for (int team : NO_TEAM) {
                Check.due("none such", x.at(team, place), -1);
            }
        }
        Check.rallies(x, "AAAAA", 1);
        Check.six(x, 0, 1, 2, 3, 4, 5, 0);
        x.lineUp(0, 11, 10, 9, 8, 7, 6);
        x.lineUp(1, 11, 10, 9, 8, 7, 6);
        Check.six(x, 0, 1, 2, 3, 4, 5, 0);
        Check.due("points stay", x.of(0, 0), 5);
        x.begin(0);
        Check.six(x, 0, 11, 10, 9, 8, 7, 6);
    }

    /** "NONE: none such, another what." */
    private static void ofByState() {
        SixWhoTurn x = match(5, 5, 5, 1);
        for (int state = 0; state < 3; state++) {
            for (int what = -2; what <= 8; what++) {
                boolean such = what >= 0 && what <= 6;
                for (int team : NO_TEAM) {
                    Check.due("none such", x.of(team, what), -1);
                }
                if (!such) {
                    Check.due("another what", x.of(0, what), -1);
                    Check.due("another what", x.of(1, what), -1);
                } else if (what != 4) {
                    Check.due("a number", x.of(0, what) >= 0 && x.of(1, what) >= 0, true);
                }
            }
            if (state == 0) {
                Check.start(x, 0, 0);
            } else if (state == 1) {
                Check.due("0, if it does not serve", x.of(1, 5), 0);
                Check.rallies(x, "AAA", 0);
                Check.due("since it came to serve", x.of(0, 5), 3);
                Check.due("0, if it does not serve", x.of(1, 5), 0);
                Check.rallies(x, "B", 0);
                Check.due("0, if it does not serve", x.of(0, 5), 0);
                Check.rallies(x, "AA", 2);
            }
        }
    }

    /** Each what at each state, and "NONE for another what". */
    private static void countByState() {
        SixWhoTurn x = match(5, 5, 5, 2);
        counts(x, -1, 0, -1, 0, -1, 0, 0, -1);
        x.lineUp(0, 0, 1, 2, 3, 4, 5);
        x.lineUp(1, 6, 7, 8, 9, 10, 11);
        counts(x, -1, 0, -1, 0, -1, 0, 0, -1);
        x.turn(0, 0);
        x.begin(1);
        counts(x, 0, 1, 1, 0, -1, 1, 0, -1);
        x.rally(0);
        x.sign(0);
        counts(x, 0, 1, 0, 1, -1, 1, 4, -1);
        Check.rallies(x, "AAAA", 1);
        counts(x, 0, 0, -1, 5, -1, 1, 4, 0);
        Check.start(x, 0, 1);
        counts(x, 1, 1, 0, 0, -1, 1, 4, -1);
        Check.rallies(x, "BBBBB", 1);
        counts(x, 1, 0, -1, 5, -1, 1, 4, 1);
        Check.start(x, 0, 2);
        Check.rallies(x, "ABBBBB", 2);
        counts(x, 2, 0, -1, 6, 1, 1, 4, 1);
    }

    private static void counts(SixWhoTurn x, int... due) {
        for (int what = -3; what <= 10; what++) {
            Check.due("count(" + what + ")", x.count(what), what >= 0 && what < 8 ? due[what] : -1);
        }
    }

    /** "in RALLIES won by the TEAM that served, all SETS; those that fell too" */
    private static void servedOfServesAlone() {
        SixWhoTurn x = match(5, 30, 5, 2);
        x.libre(1, 0);
        Check.start(x, 0, 0);
        Check.rallies(x, "ABBA", 0);
        served(x, 1, 0, 0, 1);
        Check.rallies(x, "A", 0);
        served(x, 1, 1, 0, 1);
        Check.due("wrong", x.wrong(1), 0);
        served(x, 1, 1, 0, 1);
        Check.due("a CHANGE at PLACE 0", x.change(1, 8, 1), 0);
        Check.rallies(x, "BB", 1);
        served(x, 1, 1, 0, 1);
        Check.due("who came in", x.served(1, 1), 2);
        Check.due("who went out", x.served(1, 8), 0);
        Check.start(x, 1, 1);
        Check.rallies(x, "BB", 0);
        served(x, 1, 1, 2, 1);
        for (int team : NO_TEAM) {
            Check.due("none such", x.served(team, 0), -1);
        }
        Check.due("none such", x.served(0, -1), -1);
        Check.due("none such", x.served(0, 12), -1);
        Check.due("the last one", x.served(1, 11), 0);
    }

    private static void served(SixWhoTurn x, int of0, int of1, int of6, int of7) {
        Check.due("served(0, 0)", x.served(0, 0), of0);
        Check.due("served(0, 1)", x.served(0, 1), of1);
        Check.due("served(1, 6)", x.served(1, 6), of6);
        Check.due("served(1, 7)", x.served(1, 7), of7);
    }

    /** "An object is used for at most 512 calls": the last of them is answered as the first. */
    private static void fiveHundredAndTwelveCalls() {
        SixWhoTurn x = new SixWhoTurn();
        Check.due("1st call", x.set(3, 3), 2);
        int calls = 1;
        for (int set = 0; set < 5; set++) {
            Check.start(x, 0, set);
            calls += 3;
            int points = set == 4 ? 15 : 30;
            for (int k = 0; k < 2 * points - 2; k++) {
                Check.due("rally", x.rally(k % 2), 0);
                calls++;
            }
            if (set < 4) {
                Check.due("by CAP", x.rally(set % 2), 1);
                calls++;
            }
        }
        while (calls < 511) {
            Check.due("chance", x.chance() > 400000000, true);
            calls++;
        }
        Check.due("512th call: points of the fifth SET", x.of(1, 0), 14);
        SixWhoTurn y = new SixWhoTurn();
        for (int call = 0; call < 511; call++) {
            Check.due("skill", y.skill(0, 0, 0, call % 101), call == 0 ? 50 : (call - 1) % 101);
        }
        Check.due("512th call", y.skill(0, 0, 0, 0), 510 % 101);
    }
}
