import java.util.ArrayList;
import java.util.Arrays;
import java.util.List;
import java.util.regex.Matcher;
import java.util.regex.Pattern;

/**
 * The document once more, as plainly as the Java library lets it be said and with nothing shared with
 * SixWhoTurn: FREE stands in the six itself, changes are a list, chances go over every pair of turns.
 */
final class PlainMatch {
    static final long THROWS = Long.MIN_VALUE;
    private static final int[][] RANGE = {{5, 25}, {5, 30}, {5, 25}, {1, 3}, {0, 12}, {0, 4}};
    private static final int[][] FEET = {{800, 800}, {800, 200}, {500, 200}, {200, 200}, {200, 800}, {500, 800}};
    private static final Pattern ITEM = Pattern.compile("[AB]|[ab](?:!|-|\\*[0-9xy]|[0-9xy][0-9xy])");
    /** What an ITEM may begin with, the whole of it too. */
    private static final Pattern PART = Pattern.compile("[ab](?:\\*|[0-9xy])?");

    int[][][] skill = new int[2][12][4];
    int[] libre = {-1, -1};
    int[] number = {25, 30, 15, 2, 6, 2};
    int[][] told = new int[2][];
    List<Integer> row = new ArrayList<>();
    String text = "";
    State s = new State();

    /** All that a sheet may change. */
    static final class State {
        int set = -1;
        boolean on;
        int server = -1;
        int rallies;
        int setWinner = -1;
        int winner = -1;
        int[] libreOn = {-1, -1};
        int[][] six = new int[2][];
        int[][] first = new int[2][];
        int[] standsFor = {-1, -1};
        boolean[] moved = new boolean[2];
        int[] points = new int[2];
        int[] sets = new int[2];
        int[] pauses = new int[2];
        int[] turns = new int[2];
        int streak;
        int[][] served = new int[2][12];
        int[][][] feet = new int[2][6][2];
        List<List<int[]>> changes = List.of(new ArrayList<>(), new ArrayList<>());

        State copy() {
            State c = new State();
            c.set = set;
            c.on = on;
            c.server = server;
            c.rallies = rallies;
            c.setWinner = setWinner;
            c.winner = winner;
            c.libreOn = libreOn.clone();
            c.standsFor = standsFor.clone();
            c.moved = moved.clone();
            c.points = points.clone();
            c.sets = sets.clone();
            c.pauses = pauses.clone();
            c.turns = turns.clone();
            c.streak = streak;
            for (int t = 0; t < 2; t++) {
                c.six[t] = six[t] == null ? null : six[t].clone();
                c.first[t] = first[t] == null ? null : first[t].clone();
                c.served[t] = served[t].clone();
                for (int p = 0; p < 6; p++) {
                    c.feet[t][p] = feet[t][p].clone();
                }
                c.changes.get(t).addAll(changes.get(t));
            }
            return c;
        }
    }

    PlainMatch() {
        for (int[][] team : skill) {
            for (int[] player : team) {
                Arrays.fill(player, 50);
            }
        }
    }

    private static boolean in(int v, int least, int most) {
        return least <= v && v <= most;
    }

    private static int find(int[] six, int player) {
        for (int p = 0; p < 6; p++) {
            if (six[p] == player) {
                return p;
            }
        }
        return -1;
    }

    int skill(int team, int player, int what, int v) {
        if (!in(team, 0, 1) || !in(player, 0, 11) || !in(what, 0, 3) || !in(v, 0, 100)) {
            return -1;
        }
        int was = skill[team][player][what];
        skill[team][player][what] = v;
        return was;
    }

    int libre(int team, int player) {
        if (!in(team, 0, 1) || !in(player, -1, 11) || s.on) {
            return -2;
        }
        int was = libre[team];
        libre[team] = player;
        return was;
    }

    int set(int what, int v) {
        if (s.set >= 0 || !in(what, 0, 5) || !in(v, RANGE[what][0], RANGE[what][1])) {
            return -1;
        }
        int was = number[what];
        number[what] = v;
        if (number[0] > number[1]) {
            number[what] = was;
            return -1;
        }
        return was;
    }

    boolean lineUp(int team, int... players) {
        if (!in(team, 0, 1) || s.on || s.winner >= 0) {
            return false;
        }
        if (Arrays.stream(players).filter(p -> in(p, 0, 11) && p != libre[team]).distinct().count() != 6) {
            return false;
        }
        told[team] = players.clone();
        return true;
    }

    int begin(int team) {
        if (!in(team, 0, 1) || s.on || told[0] == null || told[1] == null) {
            return -1;
        }
        if (find(told[0], libre[0]) >= 0 || find(told[1], libre[1]) >= 0) {
            return -1;
        }
        State next = new State();
        next.set = s.set + 1;
        next.on = true;
        next.server = team;
        next.sets = s.sets;
        next.served = s.served;
        next.libreOn = libre.clone();
        for (int t = 0; t < 2; t++) {
            next.six[t] = told[t].clone();
            next.first[t] = told[t];
            told[t] = null;
            for (int p = 0; p < 6; p++) {
                next.feet[t][p] = FEET[p].clone();
            }
        }
        s = next;
        return s.set;
    }

    int rally(int team) {
        if (!in(team, 0, 1) || !s.on) {
            return -1;
        }
        s.points[team]++;
        s.rallies++;
        s.moved = new boolean[2];
        if (s.server == team) {
            s.served[team][s.six[team][0]]++;
            s.streak++;
        } else {
            s.server = team;
            s.streak = 0;
            turnSix(team);
        }
        int own = s.points[team];
        boolean deciding = number[3] > 1 && s.sets[0] + s.sets[1] == 2 * (number[3] - 1);
        boolean enough = own >= number[deciding ? 2 : 0] && own > s.points[1 - team] + 1;
        if (!enough && own < number[1]) {
            return 0;
        }
        s.on = false;
        s.setWinner = team;
        s.sets[team]++;
        if (s.sets[team] == number[3]) {
            s.winner = team;
            return 2;
        }
        return 1;
    }

    private void turnSix(int team) {
        int[] was = s.six[team];
        int[] now = new int[6];
        for (int p = 0; p < 6; p++) {
            now[p] = was[p == 5 ? 0 : p + 1];
        }
        s.turns[team]++;
        if (s.standsFor[team] >= 0 && now[3] == s.libreOn[team]) {
            now[3] = s.standsFor[team];
            s.standsFor[team] = -1;
        }
        s.six[team] = now;
    }

    int may(int team, int out, int in) {
        if (!in(team, 0, 1)) {
            return -1;
        }
        if (!s.on) {
            return 1;
        }
        if (!in(out, 0, 11) || !in(in, 0, 11) || out == in) {
            return 2;
        }
        if (find(s.six[team], out) < 0 || out == libre[team]) {
            return 3;
        }
        if (find(s.six[team], in) >= 0 || in == libre[team] || in == s.standsFor[team]) {
            return 4;
        }
        List<int[]> done = s.changes.get(team);
        if (done.size() >= number[4]) {
            return 5;
        }
        boolean touched = false;
        boolean cameBack = false;
        boolean back = false;
        for (int[] c : done) {
            touched |= c[0] == out || c[1] == out || c[0] == in || c[1] == in;
            cameBack |= c[0] == out && c[1] == in;
            back |= c[0] == in && c[1] == out;
        }
        if (back && !cameBack) {
            return 0;
        }
        return !touched && find(s.first[team], out) >= 0 && find(s.first[team], in) < 0 ? 0 : 6;
    }

    int change(int team, int out, int in) {
        if (may(team, out, in) != 0) {
            return -1;
        }
        int place = find(s.six[team], out);
        s.six[team][place] = in;
        s.changes.get(team).add(new int[] {out, in});
        return place;
    }

    int free(int team, int player) {
        if (!in(team, 0, 1) || !s.on || libre[team] < 0 || s.moved[team] || !in(player, -1, 11)) {
            return -1;
        }
        int place;
        if (player < 0) {
            if (s.standsFor[team] < 0) {
                return -1;
            }
            place = find(s.six[team], libre[team]);
            s.six[team][place] = s.standsFor[team];
            s.standsFor[team] = -1;
        } else {
            place = find(s.six[team], player);
            if (s.standsFor[team] >= 0 || place < 4) {
                return -1;
            }
            s.six[team][place] = libre[team];
            s.standsFor[team] = player;
        }
        s.moved[team] = true;
        return place;
    }

    int pause(int team) {
        if (!in(team, 0, 1) || !s.on || s.pauses[team] >= number[5]) {
            return -1;
        }
        return ++s.pauses[team];
    }

    int wrong(int k) {
        if (!s.on || k < 0 || k > s.streak) {
            return -1;
        }
        s.points[s.server] -= k;
        return rally(1 - s.server);
    }

    int at(int team, int place) {
        return in(team, 0, 1) && in(place, 0, 5) && s.set >= 0 ? s.six[team][place] : -1;
    }

    int of(int team, int what) {
        if (!in(team, 0, 1) || !in(what, 0, 6)) {
            return -1;
        }
        return new int[] {s.points[team], s.sets[team], s.changes.get(team).size(), s.pauses[team],
            s.standsFor[team], s.server == team ? s.streak : 0, s.turns[team]}[what];
    }

    int count(int what) {
        if (!in(what, 0, 7)) {
            return -1;
        }
        return new int[] {s.set, s.on ? 1 : 0, s.on ? s.server : -1, s.rallies, s.winner,
            row.size(), text.length(), s.setWinner}[what];
    }

    int served(int team, int player) {
        return in(team, 0, 1) && in(player, 0, 11) ? s.served[team][player] : -1;
    }

    boolean feet(int team, int place, int x, int y) {
        if (!in(team, 0, 1) || !in(place, 0, 5) || !in(x, 0, 999) || !in(y, 0, 999) || !s.on) {
            return false;
        }
        s.feet[team][place] = new int[] {x, y};
        return true;
    }

    int overlap(int team) {
        if (!in(team, 0, 1) || !s.on) {
            return -1;
        }
        int[][] f = s.feet[team];
        boolean receives = s.server != team;
        boolean[] broken = {receives && f[1][1] >= f[0][1], f[2][1] >= f[5][1], f[3][1] >= f[4][1],
            f[3][0] >= f[2][0], f[2][0] >= f[1][0], f[4][0] >= f[5][0], receives && f[5][0] >= f[0][0]};
        for (int k = 0; k < 7; k++) {
            if (broken[k]) {
                return k;
            }
        }
        return -2;
    }

    int sign(int v) {
        if (text.length() > 96) {
            return -1;
        }
        for (int b = 3; b >= 0; b--) {
            text += (char) (v >> 8 * b & 255);
        }
        return text.length();
    }

    boolean end(int n) {
        if (!in(n, 0, text.length())) {
            return false;
        }
        text = text.substring(0, n);
        return true;
    }

    int sheet() {
        String whole = text;
        text = "";
        if (!s.on) {
            return -100;
        }
        String read = whole.substring(0, Math.min(80, whole.length()));
        List<Integer> starts = new ArrayList<>();
        Matcher m = ITEM.matcher(read);
        int p = 0;
        while (p < read.length() && m.region(p, read.length()).lookingAt()) {
            starts.add(p);
            p = m.end();
        }
        if (p < read.length()) {
            Matcher part = PART.matcher(read).region(p, read.length());
            return -1 - (part.lookingAt() ? part.end() : p);
        }
        if (whole.length() > 80) {
            return -81;
        }
        State was = s.copy();
        for (int start : starts) {
            if (doItem(read, start) == -1) {
                s = was;
                return -1001 - start;
            }
        }
        return starts.size();
    }

    private int doItem(String t, int p) {
        char c = t.charAt(p);
        if (c < 'a') {
            return rally(c - 'A');
        }
        char d = t.charAt(p + 1);
        switch (d) {
            case '!': return pause(c - 'a');
            case '-': return free(c - 'a', -1);
            case '*': return free(c - 'a', "0123456789xy".indexOf(t.charAt(p + 2)));
            default: return change(c - 'a', "0123456789xy".indexOf(d), "0123456789xy".indexOf(t.charAt(p + 2)));
        }
    }

    /** The six with the one for whom FREE stands in its place. */
    private int[] order(int team) {
        int[] order = s.six[team].clone();
        if (s.standsFor[team] >= 0) {
            order[find(order, libre[team])] = s.standsFor[team];
        }
        return order;
    }

    private int of(int team, int[] order, int turns, int place, int what) {
        return skill[team][order[(place + turns) % 6]][what];
    }

    private int odds(int[][] order, int[] turns, int team) {
        int o = 1 - team;
        int pass = 0;
        int block = 0;
        int attack = 0;
        for (int p = 0; p < 6; p++) {
            if (p >= 1 && p <= 3) {
                block += of(team, order[team], turns[team], p, 3);
                attack += of(o, order[o], turns[o], p, 2);
            } else {
                pass += of(o, order[o], turns[o], p, 1);
            }
        }
        int c = 380 + of(team, order[team], turns[team], 0, 0) - pass / 3 + block / 3 - attack / 3;
        return c < 50 ? 50 : c > 950 ? 950 : c;
    }

    int odds(int i, int j, int team) {
        if (!in(i, 0, 5) || !in(j, 0, 5) || !in(team, 0, 1) || !s.on) {
            return -1;
        }
        return odds(new int[][] {order(0), order(1)}, new int[] {i, j}, team);
    }

    /** SET CHANCE by points, turns and server, kept in memo (-1: not reckoned yet). */
    private long setChance(int[][] order, long[] memo, int[] at, int goal) {
        for (int t = 0; t < 2; t++) {
            if (at[t] >= number[1] || at[t] >= goal && at[t] >= at[1 - t] + 2) {
                return t == 0 ? 1000000000L : 0L;
            }
        }
        int key = (((at[0] * 31 + at[1]) * 6 + at[2]) * 6 + at[3]) * 2 + at[4];
        if (memo[key] < 0) {
            int server = at[4];
            long c = odds(order, new int[] {at[2], at[3]}, server);
            int[] won = at.clone();
            won[server]++;
            int[] lost = at.clone();
            lost[1 - server]++;
            lost[2 + 1 - server] = (lost[2 + 1 - server] + 1) % 6;
            lost[4] = 1 - server;
            memo[key] = (c * setChance(order, memo, won, goal) + (1000 - c) * setChance(order, memo, lost, goal)) / 1000;
        }
        return memo[key];
    }

    private long setChance(int[] order0, int[] order1, int p0, int p1, int server) {
        long[] memo = new long[31 * 31 * 72];
        Arrays.fill(memo, -1);
        boolean deciding = number[3] > 1 && s.sets[0] == number[3] - 1 && s.sets[1] == number[3] - 1;
        return setChance(new int[][] {order0, order1}, memo, new int[] {p0, p1, 0, 0, server}, number[deciding ? 2 : 0]);
    }

    int chance() {
        return s.on ? (int) setChance(order(0), order(1), s.points[0], s.points[1], s.server) : -1;
    }

    /** Plays the rally both ways on copies, and takes the chance of each. */
    int weight() {
        if (!s.on) {
            return -1;
        }
        State was = s;
        long[] then = new long[2];
        for (int t = 0; t < 2; t++) {
            s = was.copy();
            int answer = rally(t);
            then[t] = answer == 0 ? chance() : t == 0 ? 1000000000L : 0L;
        }
        s = was;
        return (int) (then[0] - then[1]);
    }

    int turn(int team, int first) {
        if (!in(team, 0, 1) || !in(first, 0, 1) || told[0] == null || told[1] == null) {
            return -1;
        }
        long[] then = new long[6];
        int best = 0;
        for (int r = 0; r < 6; r++) {
            int[][] order = {told[0].clone(), told[1].clone()};
            for (int p = 0; p < 6; p++) {
                order[team][p] = told[team][(p + r) % 6];
            }
            then[r] = setChance(order[0], order[1], 0, 0, first);
            if (team == 0 ? then[r] > then[best] : then[r] < then[best]) {
                best = r;
            }
        }
        row = List.of((int) then[best]);
        return best;
    }

    int advice(int team) {
        if (!in(team, 0, 1) || !s.on) {
            return -1;
        }
        int best = -2;
        int bestChance = chance();
        State was = s;
        for (int code = 0; code < 144; code++) {
            s = was.copy();
            if (change(team, code / 12, code % 12) >= 0) {
                int then = chance();
                if (team == 0 ? then > bestChance : then < bestChance) {
                    best = code;
                    bestChance = then;
                }
            }
        }
        s = was;
        if (best >= 0) {
            row = List.of(bestChance);
        }
        return best;
    }

    long row(int i) {
        return in(i, 0, row.size() - 1) ? row.get(i) : THROWS;
    }
}
