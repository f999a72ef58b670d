/** The boundaries that promises 22 to 27 and Terms 5 name: chances of rallies and sets, turns, advice, the ROW. */
public final class ChanceEdgesTest {
    private static final int[] NO_TEAM = {-2, -1, 2, 3, Integer.MIN_VALUE, Integer.MAX_VALUE};

    public static void main(String[] args) {
        oddsFromNoughtToFive();
        oddsByState();
        oddsFromNow();
        everyThirdIsCut();
        oddsAtTheirEnds();
        oddsOfWhomFreeStandsFor();
        chancesOfAWholeSet();
        chancesOfTheLastSet();
        chanceAtTheBrink();
        chancesBehindAWrongServer();
        chanceByState();
        theBestOfSixTurns();
        ofEqualTurnsTheLeast();
        turnByState();
        turnWithFreeNamedLater();
        theBestOfAllChanges();
        ofEqualChangesTheLeast();
        adviceJustWhatMayBe();
        noneIsBetter();
        adviceFromEndToEnd();
        adviceByState();
        rowOfTheLastCall();
        rowBesideItself();
        Check.finish();
    }

    private static SixWhoTurn match(int goal, int cap, int last) {
        SixWhoTurn x = new SixWhoTurn();
        x.set(0, goal);
        x.set(1, cap);
        x.set(2, last);
        return x;
    }

    /** All skills unlike, the same for the same seed. */
    private static void unlike(SixWhoTurn x, int seed) {
        for (int k = 0; k < 96; k++) {
            x.skill(k / 48, k % 48 / 4, k % 4, (k * 37 + seed * 53 + k * k * 11) % 101);
        }
    }

    // ---- promise 22

    /** "i TURNS of 0 and j TURNS of 1 from now (0 .. 5 each), team serving then. NONE: others" */
    private static void oddsFromNoughtToFive() {
        SixWhoTurn x = new SixWhoTurn();
        Check.start(x, 0, 0);
        for (int i = -2; i <= 7; i++) {
            for (int j = -2; j <= 7; j++) {
                for (int team = -1; team <= 2; team++) {
                    boolean such = i >= 0 && i <= 5 && j >= 0 && j <= 5 && team >= 0 && team <= 1;
                    Check.due("odds(" + i + ", " + j + ", " + team + ")", x.odds(i, j, team), such ? 380 : -1);
                }
            }
        }
        for (int far : new int[] {Integer.MIN_VALUE, Integer.MAX_VALUE}) {
            Check.due("far", x.odds(far, 0, 0), -1);
            Check.due("far", x.odds(0, far, 0), -1);
            Check.due("far", x.odds(0, 0, far), -1);
        }
    }

    private static void oddsByState() {
        SixWhoTurn x = match(5, 5, 5);
        Check.due("no SET was begun", x.odds(0, 0, 0), -1);
        x.lineUp(0, 0, 1, 2, 3, 4, 5);
        x.lineUp(1, 0, 1, 2, 3, 4, 5);
        Check.due("LINE-UPS told alone", x.odds(0, 0, 0), -1);
        x.begin(0);
        Check.due("a SET is on", x.odds(5, 5, 1), 380);
        Check.rallies(x, "AAAAA", 1);
        Check.due("between SETS", x.odds(0, 0, 0), -1);
        Check.start(x, 0, 1);
        Check.rallies(x, "AAAAA", 2);
        Check.due("behind THE MATCH", x.odds(0, 0, 0), -1);
    }

    /** "from now": TURNS that are done are counted, and come round behind the sixth. */
    private static void oddsFromNow() {
        SixWhoTurn first = new SixWhoTurn();
        unlike(first, 3);
        Check.start(first, 0, 0);
        SixWhoTurn x = new SixWhoTurn();
        unlike(x, 3);
        Check.start(x, 0, 0);
        for (int turns = 1; turns <= 7; turns++) {
            x.rally(1);
            x.rally(0);
            for (int i = 0; i < 6; i++) {
                int j = (i * 5 + 2) % 6;
                for (int team = 0; team < 2; team++) {
                    int due = first.odds((i + turns) % 6, (j + turns) % 6, team);
                    Check.due("odds behind " + turns + " TURNS", x.odds(i, j, team), due);
                }
            }
        }
    }

    /** "a third of the sum ... (each third cut)", of each of the three sums, whichever TEAM serves. */
    private static void everyThirdIsCut() {
        for (int team = 0; team < 2; team++) {
            for (int more = 0; more <= 6; more++) {
                int up = more / 3;
                Check.due("PASS", withOne(team, 1 - team, 0, 1, 50 + more), 380 - up);
                Check.due("ATTACK", withOne(team, 1 - team, 2, 2, 50 + more), 380 - up);
                Check.due("BLOCK", withOne(team, team, 3, 3, 50 + more), 380 + up);
                Check.due("SERVE", withOne(team, team, 0, 0, 50 + more), 380 + more);
                int down = (more + 2) / 3;
                Check.due("PASS below", withOne(team, 1 - team, 5, 1, 50 - more), 380 + down);
                Check.due("ATTACK below", withOne(team, 1 - team, 1, 2, 50 - more), 380 + down);
                Check.due("BLOCK below", withOne(team, team, 2, 3, 50 - more), 380 - down);
                Check.due("SERVE below", withOne(team, team, 0, 0, 50 - more), 380 - more);
            }
        }
    }

    /** CHANCE of who serves, with one skill of one PLACE at v and all others at 50. */
    private static int withOne(int server, int team, int place, int what, int v) {
        SixWhoTurn x = new SixWhoTurn();
        Check.start(x, server, 0);
        x.skill(team, 6 * team + place, what, v);
        return x.odds(0, 0, server);
    }

    /** "at least 50, at most 950": by 0 .. 100 no CHANCE is below 180 or above 580, so both hold. */
    private static void oddsAtTheirEnds() {
        for (int serve = 0; serve <= 100; serve += 100) {
            for (int pass = 0; pass <= 100; pass += 100) {
                for (int attack = 0; attack <= 100; attack += 100) {
                    for (int block = 0; block <= 100; block += 100) {
                        SixWhoTurn x = new SixWhoTurn();
                        for (int p = 0; p < 12; p++) {
                            x.skill(0, p, 0, serve);
                            x.skill(0, p, 3, block);
                            x.skill(1, p, 1, pass);
                            x.skill(1, p, 2, attack);
                        }
                        Check.start(x, 1, 0);
                        Check.due("odds", x.odds(2, 4, 0), 380 + serve - pass + block - attack);
                    }
                }
            }
        }
    }

    /** "FREE left aside: the one for whom it stands counts at its PLACE", in every PLACE that it comes to. */
    private static void oddsOfWhomFreeStandsFor() {
        SixWhoTurn x = new SixWhoTurn();
        SixWhoTurn y = new SixWhoTurn();
        for (SixWhoTurn z : new SixWhoTurn[] {x, y}) {
            unlike(z, 8);
            z.libre(0, 11);
            z.libre(1, 0);
            Check.start(z, 0, 0);
        }
        Check.due("on", x.free(0, 5), 5);
        Check.due("on", x.free(1, 11), 5);
        for (int k = 0; k < 4; k++) {
            for (int i = 0; i < 6; i++) {
                Check.due("odds of 0", x.odds(i, 5 - i, 0), y.odds(i, 5 - i, 0));
                Check.due("odds of 1", x.odds(i, 5 - i, 1), y.odds(i, 5 - i, 1));
            }
            Check.due("chance", x.chance(), y.chance());
            Check.due("weight", x.weight(), y.weight());
            x.rally((k + 1) % 2);
            y.rally((k + 1) % 2);
        }
    }

    // ---- promises 23 and 24

    /** SET CHANCE by its words, score by score and pair by pair of TURNS, out of what odds() told at 0:0. */
    private static final class Table {
        private final int[][][] odds = new int[6][6][2];
        private final long[][][][][] known = new long[31][31][6][6][2];
        private final int target;
        private final int cap;

        Table(SixWhoTurn x, int target, int cap) {
            this.target = target;
            this.cap = cap;
            for (int k = 0; k < 72; k++) {
                odds[k / 12][k / 2 % 6][k % 2] = x.odds(k / 12, k / 2 % 6, k % 2);
            }
        }

        boolean over(int a, int b) {
            return a >= cap || b >= cap || Math.max(a, b) >= target && Math.abs(a - b) >= 2;
        }

        long chance(int a, int b, int i, int j, int server) {
            if (over(a, b)) {
                return a > b ? 1000000000L : 0L;
            }
            if (known[a][b][i][j][server] == 0) {
                long c = odds[i][j][server];
                long if0 = server == 0 ? chance(a + 1, b, i, j, 0) : chance(a + 1, b, (i + 1) % 6, j, 0);
                long if1 = server == 1 ? chance(a, b + 1, i, j, 1) : chance(a, b + 1, i, (j + 1) % 6, 1);
                long then = server == 0 ? c * if0 + (1000 - c) * if1 : c * if1 + (1000 - c) * if0;
                known[a][b][i][j][server] = then / 1000 + 1;
            }
            return known[a][b][i][j][server] - 1;
        }

        void look(String name, SixWhoTurn x) {
            int a = x.of(0, 0);
            int b = x.of(1, 0);
            int i = x.of(0, 6) % 6;
            int j = x.of(1, 6) % 6;
            int server = x.count(2);
            String where = name + " at " + a + ":" + b;
            Check.due("chance, " + where, x.chance(), chance(a, b, i, j, server));
            long if0 = chance(a + 1, b, server == 0 ? i : (i + 1) % 6, j, 0);
            long if1 = chance(a, b + 1, i, server == 1 ? j : (j + 1) % 6, 1);
            Check.due("weight, " + where, x.weight(), if0 - if1);
        }
    }

    /** From 0:0 to the last RALLY: short SETS, long ones, to CAP, one-sided, each server first. */
    private static void chancesOfAWholeSet() {
        String[] courses = {"AB", "A", "B", "ABBA", "AAABB", "BBAAB", "ABABABB"};
        int[][] numbers = {{5, 5}, {5, 6}, {7, 9}, {25, 25}, {25, 30}};
        int seed = 0;
        for (int[] n : numbers) {
            for (String course : courses) {
                SixWhoTurn x = match(n[0], n[1], 15);
                unlike(x, seed);
                Check.start(x, seed % 2, 0);
                seed++;
                playAll(x, course, new Table(x, n[0], n[1]), n[0] > 9 ? 2 : 1);
            }
        }
    }

    /** A long SET is looked at behind every other RALLY, so that no object has more than 512 calls. */
    private static void playAll(SixWhoTurn x, String course, Table table, int step) {
        for (int k = 0; x.count(1) == 1 && k < 60; k++) {
            if (k % step == 0) {
                table.look(course, x);
            }
            x.rally(course.charAt(k % course.length()) - 'A');
        }
        Check.due("the SET is over", x.count(1), 0);
        Check.due("chance of none", x.chance(), -1);
        Check.due("weight of none", x.weight(), -1);
    }

    /** The SET to LAST is reckoned to LAST, or to CAP if that is lower; the ones ahead of it are not. */
    private static void chancesOfTheLastSet() {
        for (int[] n : new int[][] {{6, 9, 5}, {5, 9, 8}, {5, 6, 20}}) {
            for (int sets = 2; sets <= 3; sets++) {
                for (int looked = 0; looked < 2 * sets - 1; looked++) {
                    lookAtSet(n, sets, looked);
                }
            }
        }
    }

    private static void lookAtSet(int[] n, int sets, int looked) {
        SixWhoTurn x = match(n[0], n[1], n[2]);
        x.set(3, sets);
        unlike(x, 40 + n[2] + looked);
        for (int set = 0; set < looked; set++) {
            Check.start(x, 0, set);
            Check.rallies(x, (set % 2 == 0 ? "A" : "B").repeat(n[0]), 1);
        }
        Check.start(x, looked % 2, looked);
        boolean last = looked == 2 * sets - 2;
        playAll(x, "ABBAA", new Table(x, last ? n[2] : n[0], n[1]), 1);
    }

    /** "1000000000 or 0, if it is over": one RALLY ahead of the end for both. */
    private static void chanceAtTheBrink() {
        SixWhoTurn x = match(5, 5, 5);
        Check.start(x, 0, 0);
        Check.rallies(x, "ABABABAB", 0);
        Check.due("4:4, 1 serves", x.chance(), 620000000);
        Check.due("all hangs on it", x.weight(), 1000000000);
        SixWhoTurn y = match(5, 30, 5);
        Check.start(y, 0, 0);
        Check.rallies(y, "AAAA", 0);
        Check.due("4:0, 0 serves", y.chance() > 900000000, true);
        Check.rallies(y, "BBBBB", 0);
        int now = y.chance();
        Check.due("4:5, 1 serves", now < 500000000, true);
        Check.due("5:5 for 0, or all for 1", y.weight() > now, true);
        Check.rallies(y, "A", 0);
        Check.due("5:5 or 4:6, which is 0", 620L * y.chance() / 1000, now);
    }

    /** Points that fell are gone from the score that is reckoned from. */
    private static void chancesBehindAWrongServer() {
        SixWhoTurn x = match(7, 9, 5);
        unlike(x, 77);
        Check.start(x, 0, 0);
        Table table = new Table(x, 7, 9);
        Check.rallies(x, "BBBBAAA", 0);
        table.look("ahead", x);
        Check.due("wrong", x.wrong(2), 0);
        table.look("behind two", x);
        Check.due("wrong", x.wrong(0), 0);
        table.look("behind none", x);
    }

    private static void chanceByState() {
        SixWhoTurn x = match(5, 5, 5);
        x.set(3, 1);
        Check.due("no SET was begun", x.chance(), -1);
        Check.due("no SET was begun", x.weight(), -1);
        x.lineUp(0, 0, 1, 2, 3, 4, 5);
        x.lineUp(1, 0, 1, 2, 3, 4, 5);
        Check.due("LINE-UPS told alone", x.chance(), -1);
        Check.due("LINE-UPS told alone", x.weight(), -1);
        x.begin(0);
        Check.due("a SET is on", x.chance() > 0, true);
        Check.rallies(x, "AAAAA", 2);
        Check.due("no SET is on", x.chance(), -1);
        Check.due("no SET is on", x.weight(), -1);
    }

    // ---- promise 25

    /** "of r TURNS (0 .. 5) of a TEAM's LINE-UP at first, the other's as it is told": each r played for itself. */
    private static void theBestOfSixTurns() {
        boolean[] seen = new boolean[6];
        for (int seed = 0; seed < 12; seed++) {
            for (int k = 0; k < 4; k++) {
                int team = k / 2;
                int first = k % 2;
                SixWhoTurn x = match(5 + seed, 30, 5);
                unlike(x, seed);
                lineUps(x, team, 0);
                long[] then = new long[6];
                int best = 0;
                for (int r = 0; r < 6; r++) {
                    SixWhoTurn y = match(5 + seed, 30, 5);
                    unlike(y, seed);
                    lineUps(y, team, r);
                    Check.due("begin", y.begin(first), 0);
                    then[r] = y.chance();
                    best = (team == 0 ? then[r] > then[best] : then[r] < then[best]) ? r : best;
                }
                Check.due("turn(" + team + ", " + first + ")", x.turn(team, first), best);
                Check.due("the ROW", Check.row(x, 0), then[best]);
                Check.due("numbers of the ROW", x.count(5), 1);
                seen[best] = true;
            }
        }
        for (int r = 0; r < 6; r++) {
            Check.due("some LINE-UP is best behind " + r + " TURNS", seen[r], true);
        }
    }

    private static void lineUps(SixWhoTurn x, int team, int r) {
        int[][] six = {{3, 1, 4, 0, 5, 9}, {2, 7, 11, 8, 10, 6}};
        for (int t = 0; t < 2; t++) {
            int by = t == team ? r : 0;
            int[] p = new int[6];
            for (int place = 0; place < 6; place++) {
                p[place] = six[t][(place + by) % 6];
            }
            Check.due("lineUp", x.lineUp(t, p[0], p[1], p[2], p[3], p[4], p[5]), true);
        }
    }

    /** "of equal ones the least": a LINE-UP that is as before behind three, two, one TURNS. */
    private static void ofEqualTurnsTheLeast() {
        for (int period = 1; period <= 3; period++) {
            for (int team = 0; team < 2; team++) {
                for (int strong = 0; strong < period; strong++) {
                    SixWhoTurn x = match(7, 9, 5);
                    for (int p = 0; p < 6; p++) {
                        x.skill(team, p, 0, p % period == strong ? 90 : 10);
                    }
                    x.lineUp(0, 0, 1, 2, 3, 4, 5);
                    x.lineUp(1, 0, 1, 2, 3, 4, 5);
                    Check.due("serving first", x.turn(team, team), strong);
                    Check.due("served at first", x.turn(team, 1 - team), (strong + period - 1) % period);
                }
            }
        }
    }

    /** "NONE: none such, first not 0, 1, not both LINE-UPS told for the next SET." */
    private static void turnByState() {
        SixWhoTurn x = match(5, 5, 5);
        Check.due("none told", x.turn(0, 0), -1);
        x.lineUp(0, 0, 1, 2, 3, 4, 5);
        Check.due("one told", x.turn(0, 0), -1);
        Check.due("one told", x.turn(1, 0), -1);
        x.lineUp(1, 0, 1, 2, 3, 4, 5);
        for (int bad : NO_TEAM) {
            Check.due("none such", x.turn(bad, 0), -1);
            Check.due("first", x.turn(0, bad), -1);
        }
        Check.due("no ROW of refused ones", x.count(5), 0);
        for (int k = 0; k < 4; k++) {
            Check.due("both told", x.turn(k / 2, k % 2), 0);
        }
        Check.due("begin", x.begin(0), 0);
        Check.due("a SET is on", x.turn(0, 0), -1);
        Check.rallies(x, "AAAAA", 1);
        Check.due("none told for the next SET", x.turn(0, 0), -1);
        x.lineUp(1, 0, 1, 2, 3, 4, 5);
        Check.due("one told for the next SET", x.turn(0, 0), -1);
        x.lineUp(0, 0, 1, 2, 3, 4, 5);
        Check.due("both told for the next SET", x.turn(0, 0), 0);
        Check.due("begin", x.begin(0), 1);
        Check.rallies(x, "AAAAA", 2);
        Check.due("THE MATCH is won", x.turn(0, 0), -1);
    }

    /** The LINE-UPS are told all the same, though no SET may begin with them. */
    private static void turnWithFreeNamedLater() {
        SixWhoTurn x = match(5, 5, 5);
        x.lineUp(0, 0, 1, 2, 3, 4, 5);
        x.lineUp(1, 0, 1, 2, 3, 4, 5);
        Check.due("libre", x.libre(0, 2), -1);
        Check.due("turn", x.turn(0, 0), 0);
        Check.due("begin", x.begin(0), -1);
    }

    // ---- promise 26

    /** "The CHANGE that may be and makes SET CHANCE best for a TEAM": each CHANGE made for itself. */
    private static void theBestOfAllChanges() {
        for (int seed = 0; seed < 16; seed++) {
            int team = seed % 2;
            SixWhoTurn x = inSet(seed);
            long bestChance = x.chance();
            int best = -2;
            for (int code = 0; code < 144; code++) {
                SixWhoTurn y = inSet(seed);
                if (y.change(team, code / 12, code % 12) < 0) {
                    continue;
                }
                long then = y.chance();
                if (team == 0 ? then > bestChance : then < bestChance) {
                    best = code;
                    bestChance = then;
                }
            }
            Check.due("some CHANGE is better", best >= 0, true);
            Check.due("advice(" + team + ")", x.advice(team), best);
            Check.due("the ROW", Check.row(x, 0), bestChance);
            Check.due("numbers of the ROW", x.count(5), 1);
            Check.due("nothing is changed", x.of(team, 2), seed % 3 == 0 ? 1 : 0);
        }
    }

    private static SixWhoTurn inSet(int seed) {
        SixWhoTurn x = match(6 + seed, 30, 5);
        unlike(x, seed);
        x.libre(0, 11);
        x.libre(1, 2);
        x.lineUp(0, 3, 1, 4, 0, 5, 9);
        x.lineUp(1, 7, 11, 8, 10, 6, 0);
        x.begin(seed / 2 % 2);
        Check.rallies(x, "ABBAB", 0);
        if (seed % 3 == 0) {
            Check.due("change", x.change(0, 3, 2) >= 0 && x.change(1, 7, 1) >= 0, true);
        }
        if (seed % 4 < 2) {
            Check.due("free", x.free(seed % 2, x.at(seed % 2, 4)), 4);
        }
        return x;
    }

    /** "of equal ones the least": two who come in alike, two who go out alike. */
    private static void ofEqualChangesTheLeast() {
        for (int team = 0; team < 2; team++) {
            SixWhoTurn x = match(5, 5, 5);
            x.lineUp(0, 0, 1, 2, 3, 4, 5);
            x.lineUp(1, 0, 1, 2, 3, 4, 5);
            x.begin(team);
            for (int in = 11; in >= 6; in--) {
                x.skill(team, in, 0, 51);
                Check.due("the least who comes in", x.advice(team), in);
            }
            SixWhoTurn y = match(5, 5, 5);
            y.lineUp(0, 0, 1, 2, 3, 4, 5);
            y.lineUp(1, 0, 1, 2, 3, 4, 5);
            y.begin(team);
            Check.rallies(y, (team == 0 ? "AAAABBBB" : "BBBBAAAA"), 0);
            // 4:4 and one RALLY left: the three in FRONT count alike by ATTACK.
            y.skill(team, 8, 2, 80);
            y.skill(team, 9, 2, 80);
            Check.due("the least who goes out", y.advice(team), 12 + 8);
        }
    }

    /** "that may be": not FREE, not for whom it stands, not who went out, none when they are gone. */
    private static void adviceJustWhatMayBe() {
        SixWhoTurn x = match(5, 30, 5);
        x.set(4, 1);
        x.libre(0, 11);
        x.skill(0, 11, 0, 100);
        Check.start(x, 0, 0);
        Check.due("FREE would be best", x.advice(0), -2);
        x.skill(0, 8, 0, 60);
        Check.due("another one", x.advice(0), 8);
        long told = Check.row(x, 0);
        Check.due("change", x.change(0, 5, 6), 5);
        Check.due("CHANGES are gone", x.advice(0), -2);
        Check.due("the ROW told last", Check.row(x, 0), told);
        Check.due("its numbers", x.count(5), 1);
        SixWhoTurn y = match(5, 30, 5);
        y.libre(1, 0);
        Check.start(y, 0, 0);
        y.skill(1, 11, 1, 0);
        Check.due("who is weak", y.advice(1), 11 * 12 + 1);
        Check.due("free", y.free(1, 11), 5);
        Check.due("FREE stands for it", y.advice(1), -2);
    }

    /** "if that is better than now", "-2: none is better": an equal one is not. */
    private static void noneIsBetter() {
        for (int team = 0; team < 2; team++) {
            SixWhoTurn x = match(5, 5, 5);
            Check.start(x, 0, 0);
            Check.due("all alike", x.advice(team), -2);
            for (int p = 0; p < 12; p++) {
                boolean on = p / 6 == team;
                for (int what = 0; what < 4; what++) {
                    x.skill(team, p, what, on ? 60 : 59);
                }
            }
            Check.due("all worse", x.advice(team), -2);
            Check.due("no ROW was told", x.count(5), 0);
            Check.due("no ROW was told", Check.row(x, 0), Long.MIN_VALUE);
            for (int what = 0; what < 4; what++) {
                x.skill(team, 6 - 6 * team, what, 63);
            }
            Check.due("one better", x.advice(team) >= 0, true);
            Check.due("the ROW", x.count(5), 1);
        }
    }

    /** "out times 12 and in": from the least pair to the greatest. */
    private static void adviceFromEndToEnd() {
        for (int out = 0; out < 12; out++) {
            for (int in = 0; in < 12; in++) {
                if (out == in) {
                    continue;
                }
                SixWhoTurn x = match(5, 5, 5);
                int[] p = new int[6];
                p[0] = out;
                for (int k = 1, next = 0; k < 6; next++) {
                    if (next != out && next != in) {
                        p[k] = next;
                        k++;
                    }
                }
                x.lineUp(0, p[0], p[1], p[2], p[3], p[4], p[5]);
                x.lineUp(1, 0, 1, 2, 3, 4, 5);
                x.begin(0);
                x.skill(0, in, 0, 100);
                Check.due("advice", x.advice(0), out * 12 + in);
            }
        }
    }

    private static void adviceByState() {
        SixWhoTurn x = match(5, 5, 5);
        x.skill(0, 6, 0, 100);
        Check.due("no SET was begun", x.advice(0), -1);
        x.lineUp(0, 0, 1, 2, 3, 4, 5);
        x.lineUp(1, 6, 7, 8, 9, 10, 11);
        Check.due("LINE-UPS told alone", x.advice(0), -1);
        x.begin(0);
        for (int team : NO_TEAM) {
            Check.due("none such", x.advice(team), -1);
        }
        Check.due("no ROW of refused ones", x.count(5), 0);
        Check.due("a SET is on", x.advice(0), 6);
        Check.rallies(x, "AAAAA", 1);
        Check.due("no SET is on", x.advice(0), -1);
        Check.due("the ROW stays", x.count(5), 1);
    }

    // ---- promise 27

    /** "ROW: numbers told last by a call that says so." */
    private static void rowOfTheLastCall() {
        SixWhoTurn x = match(5, 5, 5);
        unlike(x, 5);
        x.lineUp(0, 0, 1, 2, 3, 4, 5);
        x.lineUp(1, 6, 7, 8, 9, 10, 11);
        x.turn(0, 0);
        long first = Check.row(x, 0);
        x.turn(1, 0);
        long second = Check.row(x, 0);
        Check.due("each tells its own", first > second, true);
        x.turn(0, 0);
        Check.due("told again", Check.row(x, 0), first);
        x.begin(0);
        Check.due("a SET leaves it", Check.row(x, 0), first);
        x.rally(1);
        x.chance();
        x.weight();
        x.odds(0, 0, 0);
        x.sheet();
        Check.due("calls that tell no ROW leave it", Check.row(x, 0), first);
        Check.due("advice", x.advice(0) >= 0, true);
        Check.due("advice tells its own", Check.row(x, 0) != first, true);
        Check.due("it is better than now", Check.row(x, 0) > x.chance(), true);
        Check.due("advice", x.advice(1) >= 0, true);
        Check.due("it is less for 0 than now", Check.row(x, 0) < x.chance(), true);
    }

    /** "NoSuchElementException: none such." */
    private static void rowBesideItself() {
        SixWhoTurn x = match(5, 5, 5);
        int[] all = {Integer.MIN_VALUE, -2, -1, 0, 1, 2, 5, 6, Integer.MAX_VALUE};
        for (int i : all) {
            Check.due("no ROW, row(" + i + ")", Check.row(x, i), Long.MIN_VALUE);
        }
        x.lineUp(0, 0, 1, 2, 3, 4, 5);
        x.lineUp(1, 6, 7, 8, 9, 10, 11);
        x.turn(0, 1);
        for (int i : all) {
            boolean such = i >= 0 && i < x.count(5);
            Check.due("row(" + i + ")", Check.row(x, i) != Long.MIN_VALUE, such);
        }
    }
}
