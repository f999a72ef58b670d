/**
 * "Refused calls answer NONE, or false, and change nothing": every refused call of every promise, in five states of
 * a match, between twins of which one alone was asked. Calls that only tell something change nothing either.
 */
public final class RefusedTest {
    private static final int[] NO_TEAM = {-1, 2, Integer.MIN_VALUE, Integer.MAX_VALUE};
    private static final int[] NO_PLAYER = {-1, 12, Integer.MIN_VALUE, Integer.MAX_VALUE};

    private static final Twins.Steps FRESH = x -> { };
    private static final Twins.Steps TOLD = RefusedTest::told;
    private static final Twins.Steps IN_SET = RefusedTest::inSet;
    private static final Twins.Steps BETWEEN = RefusedTest::between;
    private static final Twins.Steps WON = RefusedTest::won;
    private static final Twins.Steps FULL_TEXT = RefusedTest::fullText;

    private final String state;
    private final Twins.Steps before;

    private RefusedTest(String state, Twins.Steps before) {
        this.state = state;
        this.before = before;
    }

    public static void main(String[] args) {
        RefusedTest fresh = new RefusedTest("new", FRESH);
        RefusedTest told = new RefusedTest("told", TOLD);
        RefusedTest inSet = new RefusedTest("in a set", IN_SET);
        RefusedTest between = new RefusedTest("between sets", BETWEEN);
        RefusedTest won = new RefusedTest("match won", WON);
        for (RefusedTest t : new RefusedTest[] {fresh, told, inSet, between, won}) {
            t.noSuchTeam();
            t.noSuchPlayer();
            t.noSuchThing();
            t.noSuchNumber();
            t.linesUpTwice();
            t.tellsOnly();
        }
        for (RefusedTest t : new RefusedTest[] {fresh, told, between, won}) {
            t.noSetIsOn();
        }
        for (RefusedTest t : new RefusedTest[] {inSet, between, won}) {
            t.aSetWasBegun();
        }
        fresh.refuse("begin(0)", x -> x.begin(0), -1);
        fresh.refuse("turn(0, 0)", x -> x.turn(0, 0), -1);
        told.freeInALineUp();
        told.goalAndCap();
        inSet.aSetIsOn();
        inSet.changesRefused();
        inSet.freeRefused();
        inSet.pausesAndPointsGone();
        inSet.sheetsRefused();
        between.refuse("begin(0)", x -> x.begin(0), -1);
        between.refuse("turn(1, 0)", x -> x.turn(1, 0), -1);
        won.theMatchIsWon();
        new RefusedTest("text of 97", FULL_TEXT).textIsFull();
        Check.finish();
    }

    private void refuse(String call, Twins.Call asked, long want) {
        Twins.nothing(state + ": " + call, before, asked, want);
    }

    // ---- what is refused in every state

    private void noSuchTeam() {
        for (int t : NO_TEAM) {
            refuse("skill(" + t + ", ..)", x -> x.skill(t, 0, 0, 7), -1);
            refuse("libre(" + t + ", ..)", x -> x.libre(t, 1), -2);
            refuse("libre(" + t + ", -1)", x -> x.libre(t, -1), -2);
            refuse("lineUp(" + t + ", ..)", x -> x.lineUp(t, 1, 2, 3, 4, 5, 6) ? 1 : 0, 0);
            refuse("begin(" + t + ")", x -> x.begin(t), -1);
            refuse("rally(" + t + ")", x -> x.rally(t), -1);
            refuse("may(" + t + ", ..)", x -> x.may(t, 3, 7), -1);
            refuse("change(" + t + ", ..)", x -> x.change(t, 3, 7), -1);
            refuse("free(" + t + ", -1)", x -> x.free(t, -1), -1);
            refuse("free(" + t + ", 8)", x -> x.free(t, 8), -1);
            refuse("pause(" + t + ")", x -> x.pause(t), -1);
            refuse("at(" + t + ", 0)", x -> x.at(t, 0), -1);
            refuse("of(" + t + ", 0)", x -> x.of(t, 0), -1);
            refuse("served(" + t + ", 0)", x -> x.served(t, 0), -1);
            refuse("feet(" + t + ", ..)", x -> x.feet(t, 3, 999, 999) ? 1 : 0, 0);
            refuse("overlap(" + t + ")", x -> x.overlap(t), -1);
            refuse("odds(0, 0, " + t + ")", x -> x.odds(0, 0, t), -1);
            refuse("turn(" + t + ", 0)", x -> x.turn(t, 0), -1);
            refuse("turn(0, " + t + ")", x -> x.turn(0, t), -1);
            refuse("advice(" + t + ")", x -> x.advice(t), -1);
        }
    }

    private void noSuchPlayer() {
        for (int p : NO_PLAYER) {
            refuse("skill(0, " + p + ", ..)", x -> x.skill(0, p, 0, 7), -1);
            refuse("served(0, " + p + ")", x -> x.served(0, p), -1);
            refuse("change(0, " + p + ", 7)", x -> x.change(0, p, 7), -1);
            refuse("change(0, 3, " + p + ")", x -> x.change(0, 3, p), -1);
            for (int place = 0; place < 6; place++) {
                int[] six = {1, 2, 3, 4, 5, 6};
                six[place] = p;
                refuseLineUp(0, six);
            }
            if (p != -1) {
                refuse("libre(0, " + p + ")", x -> x.libre(0, p), -2);
                refuse("free(0, " + p + ")", x -> x.free(0, p), -1);
            }
        }
        refuse("libre(1, -2)", x -> x.libre(1, -2), -2);
        refuse("free(0, -2)", x -> x.free(0, -2), -1);
    }

    private void refuseLineUp(int team, int[] p) {
        refuse("lineUp(" + team + ", " + java.util.Arrays.toString(p) + ")",
            x -> x.lineUp(team, p[0], p[1], p[2], p[3], p[4], p[5]) ? 1 : 0, 0);
    }

    private void noSuchThing() {
        for (int far : new int[] {Integer.MIN_VALUE, -1, Integer.MAX_VALUE}) {
            refuse("skill what " + far, x -> x.skill(0, 3, far, 7), -1);
            refuse("set(" + far + ", 5)", x -> x.set(far, 5), -1);
            refuse("at(0, " + far + ")", x -> x.at(0, far), -1);
            refuse("of(0, " + far + ")", x -> x.of(0, far), -1);
            refuse("count(" + far + ")", x -> x.count(far), -1);
            refuse("feet of place " + far, x -> x.feet(0, far, 1, 1) ? 1 : 0, 0);
            refuse("odds(" + far + ", 0, 0)", x -> x.odds(far, 0, 0), -1);
            refuse("odds(0, " + far + ", 0)", x -> x.odds(0, far, 0), -1);
            refuse("row(" + far + ")", x -> Check.row(x, far), Long.MIN_VALUE);
        }
        refuse("skill what 4", x -> x.skill(0, 3, 4, 7), -1);
        refuse("set(6, 5)", x -> x.set(6, 5), -1);
        refuse("at(0, 6)", x -> x.at(0, 6), -1);
        refuse("of(0, 7)", x -> x.of(0, 7), -1);
        refuse("count(8)", x -> x.count(8), -1);
        refuse("feet of place 6", x -> x.feet(0, 6, 1, 1) ? 1 : 0, 0);
        refuse("odds(6, 0, 0)", x -> x.odds(6, 0, 0), -1);
        refuse("odds(0, 6, 1)", x -> x.odds(0, 6, 1), -1);
        refuse("row behind its last", x -> Check.row(x, x.count(5)), Long.MIN_VALUE);
    }

    private void noSuchNumber() {
        for (int far : new int[] {Integer.MIN_VALUE, -1, 101, Integer.MAX_VALUE}) {
            refuse("skill to " + far, x -> x.skill(0, 3, 2, far), -1);
        }
        for (int far : new int[] {Integer.MIN_VALUE, -1, 1000, Integer.MAX_VALUE}) {
            refuse("feet x " + far, x -> x.feet(0, 3, far, 999) ? 1 : 0, 0);
            refuse("feet y " + far, x -> x.feet(0, 3, 999, far) ? 1 : 0, 0);
        }
        int[][] beside = {{4, 26}, {4, 31}, {4, 26}, {0, 4}, {-1, 13}, {-1, 5}};
        for (int k = 0; k < 6; k++) {
            int what = k;
            for (int v : beside[k]) {
                refuse("set(" + k + ", " + v + ")", x -> x.set(what, v), -1);
            }
        }
        for (int k : new int[] {Integer.MIN_VALUE, -1, 3, Integer.MAX_VALUE}) {
            refuse("wrong(" + k + ")", x -> x.wrong(k), -1);
        }
        for (int n : new int[] {Integer.MIN_VALUE, -1, Integer.MAX_VALUE}) {
            refuse("end(" + n + ")", x -> x.end(n) ? 1 : 0, 0);
        }
        refuse("end behind the end", x -> x.end(x.count(6) + 1) ? 1 : 0, 0);
    }

    private void linesUpTwice() {
        for (int k = 1; k < 6; k++) {
            for (int j = 0; j < k; j++) {
                int[] six = {1, 2, 3, 4, 5, 6};
                six[k] = six[j];
                refuseLineUp(1, six);
            }
        }
    }

    private void tellsOnly() {
        for (int t = 0; t < 2; t++) {
            int team = t;
            refuse("at", x -> x.at(team, 4) - x.at(team, 4), 0);
            refuse("of", x -> x.of(team, 5) - x.of(team, 5), 0);
            refuse("served", x -> x.served(team, 3) - x.served(team, 3), 0);
            refuse("overlap", x -> x.overlap(team) - x.overlap(team), 0);
            refuse("may", x -> x.may(team, 3, 7) - x.may(team, 3, 7), 0);
            refuse("odds", x -> x.odds(3, 2, team) - x.odds(3, 2, team), 0);
        }
        refuse("count", x -> x.count(3) - x.count(3), 0);
        refuse("chance", x -> x.chance() - x.chance(), 0);
        refuse("weight", x -> x.weight() - x.weight(), 0);
        refuse("row", x -> Check.row(x, 0) - Check.row(x, 0), 0);
        // These two tell the ROW besides, so both twins are asked last for the same one.
        Twins.alike(state + ": turn", x -> {
            before.on(x);
            x.turn(1, 1);
            x.turn(0, 1);
        }, x -> {
            before.on(x);
            x.turn(0, 1);
        });
        Twins.alike(state + ": advice", x -> {
            before.on(x);
            x.advice(1);
            x.advice(0);
        }, x -> {
            before.on(x);
            x.advice(0);
        });
    }

    // ---- what is refused by state

    private void noSetIsOn() {
        for (int t = 0; t < 2; t++) {
            int team = t;
            refuse("rally", x -> x.rally(team), -1);
            refuse("may", x -> x.may(team, 3, 7), 1);
            refuse("change", x -> x.change(team, 4, 3), -1);
            refuse("change back", x -> x.change(team, 6, 4), -1);
            refuse("free off", x -> x.free(team, -1), -1);
            refuse("free for 1", x -> x.free(team, 1), -1);
            refuse("free for 8", x -> x.free(team, 8), -1);
            refuse("pause", x -> x.pause(team), -1);
            refuse("feet", x -> x.feet(team, 2, 1, 999) ? 1 : 0, 0);
            refuse("overlap", x -> x.overlap(team), -1);
            refuse("odds", x -> x.odds(0, 0, team), -1);
            refuse("advice", x -> x.advice(team), -1);
        }
        refuse("wrong(0)", x -> x.wrong(0), -1);
        refuse("wrong(1)", x -> x.wrong(1), -1);
        refuse("chance", x -> x.chance(), -1);
        refuse("weight", x -> x.weight(), -1);
        // The sheet empties THE TEXT, and does nothing else.
        Twins.alike(state + ": sheet", x -> {
            before.on(x);
            Check.due(state + ": sheet()", x.sheet(), -100);
        }, x -> {
            before.on(x);
            Check.due("end(0)", x.end(0), true);
        });
    }

    private void aSetWasBegun() {
        int[] taken = {5, 10, 6, 1, 12, 4};
        for (int k = 0; k < 6; k++) {
            int what = k;
            refuse("set(" + k + ", " + taken[k] + ")", x -> x.set(what, taken[what]), -1);
        }
    }

    private void freeInALineUp() {
        for (int place = 0; place < 6; place++) {
            int[] six = {1, 2, 3, 4, 5, 6};
            six[place] = 11;
            refuseLineUp(0, six);
            int[] other = {1, 2, 3, 4, 5, 6};
            other[place] = 0;
            refuseLineUp(1, other);
        }
        for (int t = 0; t < 2; t++) {
            int team = t;
            Twins.Steps named = x -> {
                before.on(x);
                x.libre(team, 4);
            };
            Twins.nothing("begin with FREE in the line-up of " + t, named, x -> x.begin(0), -1);
        }
    }

    private void goalAndCap() {
        refuse("GOAL above CAP", x -> x.set(0, 10), -1);
        refuse("CAP below GOAL", x -> x.set(1, 6), -1);
    }

    private void aSetIsOn() {
        for (int t = 0; t < 2; t++) {
            int team = t;
            refuse("libre(" + t + ", 3)", x -> x.libre(team, 3), -2);
            refuse("libre(" + t + ", -1)", x -> x.libre(team, -1), -2);
            refuse("lineUp", x -> x.lineUp(team, 1, 2, 3, 4, 5, 6) ? 1 : 0, 0);
            refuse("begin", x -> x.begin(team), -1);
            refuse("turn", x -> x.turn(team, 0), -1);
        }
    }

    private void changesRefused() {
        refuse("one alone", x -> x.change(0, 3, 3), -1);
        refuse("who is not on", x -> x.change(0, 7, 9), -1);
        refuse("FREE out", x -> x.change(0, 11, 7), -1);
        refuse("for whom FREE stands, out", x -> x.change(0, 1, 7), -1);
        refuse("who is on, in", x -> x.change(0, 3, 5), -1);
        refuse("FREE in", x -> x.change(0, 3, 11), -1);
        refuse("for whom FREE stands, in", x -> x.change(0, 3, 1), -1);
        refuse("who went out, for another one", x -> x.change(0, 3, 4), -1);
        refuse("who came in, for another one", x -> x.change(0, 6, 7), -1);
        Twins.Steps gone = x -> {
            before.on(x);
            Check.due("change", x.change(0, 3, 7), 0);
            Check.due("change", x.change(0, 7, 3), 0);
        };
        Twins.nothing("CHANGES are gone", gone, x -> x.change(0, 5, 9), -1);
        Twins.nothing("CHANGES are gone, back", gone, x -> x.change(0, 6, 4), -1);
    }

    private void freeRefused() {
        refuse("off at once", x -> x.free(0, -1), -1);
        refuse("on again", x -> x.free(0, 8), -1);
        refuse("not on", x -> x.free(1, -1), -1);
        for (int place = 0; place < 4; place++) {
            int p = place;
            refuse("FREE for who is at " + place, x -> x.free(1, x.at(1, p)), -1);
        }
        refuse("FREE for itself", x -> x.free(1, 0), -1);
        refuse("FREE for who is not on", x -> x.free(1, 10), -1);
        Twins.Steps later = x -> {
            before.on(x);
            x.rally(1);
        };
        Twins.nothing("it is on already", later, x -> x.free(0, 8), -1);
        Twins.nothing("it is on already for that one", later, x -> x.free(0, 1), -1);
        Twins.Steps off = x -> {
            later.on(x);
            Check.due("off", x.free(0, -1), 4);
        };
        Twins.nothing("on at once", off, x -> x.free(0, 1), -1);
    }

    private void pausesAndPointsGone() {
        refuse("pause", x -> x.pause(0), -1);
        refuse("wrong(3)", x -> x.wrong(3), -1);
    }

    /** All is as if THE TEXT alone had been emptied. */
    private void sheetsRefused() {
        String[] texts = {"A?", "Ba", "BBa*", "b9", "Aa!", "BAa-", "BAa-a*1", "Bb!b!", "Aa46", "Ba35", "a*8", "b93b42",
            "AAA", "BBBBAAAa-", "AAb!", "AABBBBB"};
        int[] due = {-2, -3, -5, -3, -1002, -1003, -1003, -1004, -1002, -1002, -1001, -1004, -1003, -1008, -1003, -1003};
        for (int k = 0; k < texts.length; k++) {
            String text = texts[k];
            int want = due[k];
            Twins.alike("sheet " + text, x -> {
                before.on(x);
                x.end(0);
                Check.due("sheet " + text, Check.sheet(x, text), want);
            }, x -> {
                before.on(x);
                x.end(0);
            });
        }
    }

    private void theMatchIsWon() {
        refuse("lineUp of 0", x -> x.lineUp(0, 1, 2, 3, 4, 5, 6) ? 1 : 0, 0);
        refuse("lineUp of 1", x -> x.lineUp(1, 1, 2, 3, 4, 5, 6) ? 1 : 0, 0);
        refuse("begin", x -> x.begin(0), -1);
        refuse("turn", x -> x.turn(0, 0), -1);
    }

    private void textIsFull() {
        refuse("sign at 97", x -> x.sign(0x41414141), -1);
        Twins.Steps at99 = x -> {
            before.on(x);
            x.end(80);
            for (int k = 0; k < 5; k++) {
                x.sign(0x42424242);
            }
            x.end(99);
        };
        Twins.nothing("sign at 99", at99, x -> x.sign(0), -1);
    }

    // ---- the states

    private static void told(SixWhoTurn x) {
        int[] numbers = {7, 9, 5, 2, 3, 1};
        for (int what = 0; what < 6; what++) {
            x.set(what, numbers[what]);
        }
        for (int k = 0; k < 96; k += 5) {
            x.skill(k / 48, k % 48 / 4, k % 4, k);
        }
        x.libre(0, 11);
        x.libre(1, 0);
        x.lineUp(0, 10, 1, 8, 3, 4, 5);
        x.lineUp(1, 6, 7, 2, 9, 4, 11);
        Check.due("turn", x.turn(1, 0) >= 0, true);
        x.sign('A' << 24 | 'B' << 16 | 'B' << 8 | 'a');
        x.end(3);
    }

    /** 5:2; team 0 has won two points since it came to serve, and stands 3 6 5 10 FREE 8, FREE for 1. */
    private static void inSet(SixWhoTurn x) {
        told(x);
        x.begin(1);
        Check.rallies(x, "ABABAAA", 0);
        Check.due("change", x.change(0, 4, 6), 1);
        Check.due("free", x.free(0, 1), 4);
        Check.due("pause", x.pause(0), 1);
        x.feet(0, 0, 500, 100);
        x.feet(1, 3, 600, 100);
        x.sign('b' << 24 | '!' << 16);
        x.end(5);
    }

    private static void between(SixWhoTurn x) {
        inSet(x);
        Check.rallies(x, "AA", 1);
        x.lineUp(0, 10, 1, 8, 3, 4, 5);
    }

    private static void won(SixWhoTurn x) {
        between(x);
        x.lineUp(1, 6, 7, 2, 9, 4, 11);
        Check.due("begin", x.begin(0), 1);
        Check.rallies(x, "BAAAAAAA", 2);
    }

    private static void fullText(SixWhoTurn x) {
        x.lineUp(0, 0, 1, 2, 3, 4, 5);
        x.lineUp(1, 0, 1, 2, 3, 4, 5);
        x.begin(0);
        for (int k = 1; k <= 25; k++) {
            x.sign('A' << 24 | 'B' << 16 | 'A' << 8 | 'B');
        }
        x.end(97);
    }
}
