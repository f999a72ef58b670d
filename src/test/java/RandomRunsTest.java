import java.util.Random;

/** Long runs of calls, the same at each start, answered by SixWhoTurn and by PlainMatch side by side. */
public final class RandomRunsTest {
    private static final int RUNS = 600;
    private static final int CALLS = 400;
    private static final String PLAYERS = "0123456789xy";

    private final Random random;
    private final SixWhoTurn x = new SixWhoTurn();
    private final PlainMatch plain = new PlainMatch();
    private final int run;
    private final boolean keen;
    private int calls = 0;
    private int dear = 0;

    private RandomRunsTest(int run) {
        this.run = run;
        random = new Random(7919L * run + 1);
        keen = run % 3 == 0;
    }

    public static void main(String[] args) {
        for (int run = 0; run < RUNS; run++) {
            new RandomRunsTest(run).go();
        }
        Check.finish();
    }

    private void go() {
        setUp();
        while (calls < CALLS) {
            if (!plain.s.on && random.nextInt(4) > 0) {
                nextSet();
            }
            step();
        }
        lookAtAll();
    }

    private void due(String call, long got, long want) {
        calls++;
        Check.due("run " + run + ", call " + calls + ": " + call, got, want);
    }

    private int upTo(int most) {
        return random.nextInt(most + 1);
    }

    /** Mostly 0 .. most, now and then beside it or far off. */
    private int near(int most) {
        switch (random.nextInt(40)) {
            case 0: return -1;
            case 1: return most + 1;
            case 2: return random.nextInt();
            case 3: return -2;
            default: return upTo(most);
        }
    }

    private void setUp() {
        for (int k = upTo(12); k > 0; k--) {
            number(near(5));
        }
        if (run % 4 != 0) {
            int goal = 5 + upTo(4);
            due("set(0, " + goal + ")", x.set(0, goal), plain.set(0, goal));
            int cap = goal + upTo(3);
            due("set(1, " + cap + ")", x.set(1, cap), plain.set(1, cap));
            int last = 5 + upTo(3);
            due("set(2, " + last + ")", x.set(2, last), plain.set(2, last));
        }
        for (int k = run % 5 == 0 ? 0 : upTo(60); k > 0; k--) {
            skill();
        }
        for (int t = 0; t < 2; t++) {
            if (random.nextInt(3) > 0) {
                int p = upTo(11);
                due("libre(" + t + ", " + p + ")", x.libre(t, p), plain.libre(t, p));
            }
        }
    }

    private void number(int what) {
        int v = random.nextInt(34) - 2;
        due("set(" + what + ", " + v + ")", x.set(what, v), plain.set(what, v));
    }

    private void skill() {
        int t = near(1);
        int p = near(11);
        int what = near(3);
        int v = random.nextInt(5) == 0 ? upTo(1) * 100 : near(100);
        due("skill(" + t + ", " + p + ", " + what + ", " + v + ")", x.skill(t, p, what, v), plain.skill(t, p, what, v));
    }

    private void nextSet() {
        for (int t = 0; t < 2; t++) {
            if (random.nextInt(20) > 0) {
                lineUp(t);
            }
        }
        if (random.nextInt(6) == 0) {
            turn();
        }
        int t = near(1);
        due("begin(" + t + ")", x.begin(t), plain.begin(t));
    }

    private void lineUp(int team) {
        int[] p = new int[12];
        for (int k = 0; k < 12; k++) {
            int j = upTo(k);
            p[k] = p[j];
            p[j] = k;
        }
        if (random.nextInt(12) == 0) {
            p[upTo(5)] = near(11);
        }
        int libre = team == 0 || team == 1 ? plain.libre[team] : -1;
        for (int k = 0; k < 6 && random.nextInt(15) > 0; k++) {
            if (p[k] == libre) {
                p[k] = p[6];
            }
        }
        due("lineUp(" + team + ", ..)", x.lineUp(team, p[0], p[1], p[2], p[3], p[4], p[5]) ? 1 : 0,
            plain.lineUp(team, p[0], p[1], p[2], p[3], p[4], p[5]) ? 1 : 0);
    }

    private void turn() {
        int t = near(1);
        int first = near(1);
        due("turn(" + t + ", " + first + ")", x.turn(t, first), plain.turn(t, first));
        lookAtRow();
    }

    private void lookAtRow() {
        int i = random.nextInt(3) - 1;
        due("count(5)", x.count(5), plain.count(5));
        due("row(" + i + ")", Check.row(x, i), plain.row(i));
    }

    private void step() {
        int kind = random.nextInt(100);
        if (kind < 40) {
            int t = keen ? random.nextInt(5) / 4 : near(1);
            due("rally(" + t + ")", x.rally(t), plain.rally(t));
        } else if (kind < 52) {
            change();
        } else if (kind < 60) {
            free();
        } else if (kind < 70) {
            sheet();
        } else if (kind < 90) {
            look();
        } else {
            seldom(kind - 90);
        }
    }

    private void seldom(int kind) {
        switch (kind) {
            case 0: case 1: {
                int k = random.nextInt(3) == 0 ? near(3) : upTo(Math.max(0, plain.s.streak));
                due("wrong(" + k + ")", x.wrong(k), plain.wrong(k));
                break;
            }
            case 2: {
                int t = near(1);
                due("pause(" + t + ")", x.pause(t), plain.pause(t));
                break;
            }
            case 3: skill(); break;
            case 4: {
                int t = near(1);
                int p = random.nextInt(13) - 1;
                due("libre(" + t + ", " + p + ")", x.libre(t, p), plain.libre(t, p));
                break;
            }
            case 5: number(near(5)); break;
            case 6: lineUp(near(1)); break;
            case 7: turn(); break;
            default: feet(); break;
        }
    }

    private int someoneOn(int team) {
        if (plain.s.on && (team == 0 || team == 1) && random.nextInt(5) > 0) {
            return plain.s.six[team][upTo(5)];
        }
        return near(11);
    }

    private void change() {
        int t = near(1);
        int out = someoneOn(t);
        int in = near(11);
        due("may(" + t + ", " + out + ", " + in + ")", x.may(t, out, in), plain.may(t, out, in));
        if (random.nextInt(2) == 0) {
            due("change(" + t + ", " + out + ", " + in + ")", x.change(t, out, in), plain.change(t, out, in));
        }
    }

    private void free() {
        int t = near(1);
        int p = random.nextInt(3) == 0 ? -1 : someoneBehind(t);
        due("free(" + t + ", " + p + ")", x.free(t, p), plain.free(t, p));
    }

    private int someoneBehind(int team) {
        if (plain.s.on && (team == 0 || team == 1) && random.nextInt(5) > 0) {
            return plain.s.six[team][4 + upTo(1)];
        }
        return near(11);
    }

    private void feet() {
        int t = near(1);
        for (int k = upTo(3); k >= 0; k--) {
            int place = near(5);
            int fx = random.nextBoolean() ? 100 * upTo(9) : near(999);
            int fy = random.nextBoolean() ? 100 * upTo(9) : near(999);
            due("feet(" + t + ", " + place + ", " + fx + ", " + fy + ")",
                x.feet(t, place, fx, fy) ? 1 : 0, plain.feet(t, place, fx, fy) ? 1 : 0);
        }
        due("overlap(" + t + ")", x.overlap(t), plain.overlap(t));
    }

    private void sheet() {
        StringBuilder text = new StringBuilder();
        int items = random.nextInt(12) == 0 ? 60 : upTo(5);
        for (int k = 0; k < items && text.length() < 92; k++) {
            text.append(item());
        }
        if (random.nextInt(4) == 0 && text.length() > 0) {
            text.setCharAt(upTo(text.length() - 1), "ABab!*-0xyzC @\u00ff\u0000".charAt(upTo(15)));
        }
        if (random.nextInt(6) == 0 && text.length() > 0) {
            text.setLength(text.length() - 1);
        }
        write(text.toString());
        due("sheet() of " + text, x.sheet(), plain.sheet());
        due("count(6)", x.count(6), plain.count(6));
    }

    private String item() {
        int team = upTo(1);
        String t = team == 0 ? "a" : "b";
        switch (random.nextInt(12)) {
            case 0: return t + "!";
            case 1: return t + "-";
            case 2: return t + "*" + PLAYERS.charAt(Math.max(0, Math.min(11, someoneBehind(team))));
            case 3: case 4:
                return t + PLAYERS.charAt(Math.max(0, Math.min(11, someoneOn(team)))) + PLAYERS.charAt(upTo(11));
            default: return team == 0 ? "A" : "B";
        }
    }

    private void write(String text) {
        for (int k = 0; k < text.length(); k += 4) {
            int v = 0;
            for (int b = 0; b < 4; b++) {
                v = v << 8 | (k + b < text.length() ? text.charAt(k + b) : upTo(255));
            }
            due("sign(" + v + ")", x.sign(v), plain.sign(v));
        }
        due("end(" + text.length() + ")", x.end(text.length()) ? 1 : 0, plain.end(text.length()) ? 1 : 0);
    }

    private void look() {
        int t = near(1);
        switch (random.nextInt(10)) {
            case 0: {
                int p = near(5);
                due("at(" + t + ", " + p + ")", x.at(t, p), plain.at(t, p));
                break;
            }
            case 1: case 2: {
                int what = near(6);
                due("of(" + t + ", " + what + ")", x.of(t, what), plain.of(t, what));
                break;
            }
            case 3: {
                int what = near(7);
                due("count(" + what + ")", x.count(what), plain.count(what));
                break;
            }
            case 4: {
                int p = near(11);
                due("served(" + t + ", " + p + ")", x.served(t, p), plain.served(t, p));
                break;
            }
            case 5: case 6: {
                int i = near(5);
                int j = near(5);
                due("odds(" + i + ", " + j + ", " + t + ")", x.odds(i, j, t), plain.odds(i, j, t));
                break;
            }
            case 7: due("chance()", x.chance(), plain.chance()); break;
            case 8: due("weight()", x.weight(), plain.weight()); break;
            default: advice(t); break;
        }
    }

    private void advice(int t) {
        // The plain reckoning is slow, so a long set gets few of these.
        dear += plain.number[0];
        if (dear < 80 || !plain.s.on) {
            due("advice(" + t + ")", x.advice(t), plain.advice(t));
        }
        lookAtRow();
    }

    private void lookAtAll() {
        for (int t = 0; t < 2; t++) {
            for (int p = 0; p < 6; p++) {
                due("at(" + t + ", " + p + ")", x.at(t, p), plain.at(t, p));
            }
            for (int what = 0; what < 7; what++) {
                due("of(" + t + ", " + what + ")", x.of(t, what), plain.of(t, what));
            }
            for (int p = 0; p < 12; p++) {
                due("served(" + t + ", " + p + ")", x.served(t, p), plain.served(t, p));
            }
            due("overlap(" + t + ")", x.overlap(t), plain.overlap(t));
        }
        for (int what = 0; what < 8; what++) {
            due("count(" + what + ")", x.count(what), plain.count(what));
        }
        due("chance()", x.chance(), plain.chance());
        due("row(0)", Check.row(x, 0), plain.row(0));
    }
}
