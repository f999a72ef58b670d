import java.util.NoSuchElementException;

/** A volleyball match gone on rally by rally, and the chances of its sets; DOC.md numbers the promises. */
public final class SixWhoTurn {
    public static final int NONE = -1;

    private static final int PLAYERS = 12;
    private static final int PLACES = 6;
    private static final int LEFT_FRONT = 3;
    private static final int LEFT_BEHIND = 4;
    private static final int MIDDLE_BEHIND = 5;
    private static final int[] FRONT = {1, 2, 3};
    private static final int[] BEHIND = {0, 4, 5};

    private static final int SERVE = 0;
    private static final int PASS = 1;
    private static final int ATTACK = 2;
    private static final int BLOCK = 3;
    private static final int SKILLS = 4;

    private static final int GOAL = 0;
    private static final int CAP = 1;
    private static final int LAST = 2;
    private static final int SETS = 3;
    private static final int CHANGES = 4;
    private static final int PAUSES = 5;
    private static final int MOST_POINTS = 30;

    private static final int LIBRE_REFUSED = -2;
    private static final int NO_OVERLAP = -2;
    private static final int NONE_BETTER = -2;
    private static final int NO_SET_FOR_SHEET = -100;

    private final Numbers numbers;
    private final Squad squad0;
    private final Squad squad1;
    private final Court court0;
    private final Court court1;
    private final Course course;
    private final Court savedCourt0;
    private final Court savedCourt1;
    private final Course savedCourse;
    private final Stance stance0;
    private final Stance stance1;
    private final Text text;
    private final Chances chances;
    private int rowSize;
    private int rowNumber;

    public SixWhoTurn() {
        numbers = new Numbers();
        squad0 = new Squad();
        squad1 = new Squad();
        court0 = new Court();
        court1 = new Court();
        course = new Course();
        savedCourt0 = new Court();
        savedCourt1 = new Court();
        savedCourse = new Course();
        stance0 = new Stance();
        stance1 = new Stance();
        text = new Text();
        chances = new Chances();
        rowSize = 0;
        rowNumber = 0;
    }

    // ---- who, by what numbers

    public int skill(int team, int player, int what, int v) {
        if (!isTeam(team) || !isPlayer(player) || what < 0 || what >= SKILLS || v < 0 || v > 100) {
            return NONE;
        }
        Squad squad = squadOf(team);
        int was = squad.skillOf(player, what);
        squad.putSkill(player, what, v);
        return was;
    }

    public int libre(int team, int player) {
        if (!isTeam(team) || (player != NONE && !isPlayer(player)) || course.on) {
            return LIBRE_REFUSED;
        }
        Squad squad = squadOf(team);
        int was = squad.freeOne;
        squad.freeOne = player;
        return was;
    }

    public int set(int what, int v) {
        if (course.number != NONE || !numbers.takes(what, v)) {
            return NONE;
        }
        int was = numbers.valueOf(what);
        numbers.putValue(what, v);
        return was;
    }

    // ---- the match

    public boolean lineUp(int team, int a, int b, int c, int d, int e, int f) {
        if (!isTeam(team) || course.on || course.matchWinner != NONE) {
            return false;
        }
        // Six unlike players leave six bits; a number that is no player leaves a bit fewer.
        int six = bitOf(a) | bitOf(b) | bitOf(c) | bitOf(d) | bitOf(e) | bitOf(f);
        Squad squad = squadOf(team);
        if (Integer.bitCount(six) != PLACES || (six & bitOf(squad.freeOne)) != 0) {
            return false;
        }
        squad.tell(a, b, c, d, e, f);
        return true;
    }

    public int begin(int team) {
        if (!isTeam(team) || course.on || course.matchWinner != NONE) {
            return NONE;
        }
        if (!squad0.isReady() || !squad1.isReady()) {
            return NONE;
        }
        court0.startSet(squad0);
        court1.startSet(squad1);
        squad0.told = false;
        squad1.told = false;
        stance0.stand();
        stance1.stand();
        course.startSet(team);
        return course.number;
    }

    public int rally(int team) {
        if (!isTeam(team) || !course.on) {
            return NONE;
        }
        return winRally(team);
    }

    public int may(int team, int out, int in) {
        if (!isTeam(team)) {
            return NONE;
        }
        if (!course.on) {
            return 1;
        }
        if (!isPlayer(out) || !isPlayer(in) || out == in) {
            return 2;
        }
        Court court = courtOf(team);
        if (!court.mayLeave(out)) {
            return 3;
        }
        if (!court.mayEnter(in)) {
            return 4;
        }
        if (court.changesDone >= numbers.valueOf(CHANGES)) {
            return 5;
        }
        return court.arePair(out, in) ? 0 : 6;
    }

    public int change(int team, int out, int in) {
        if (may(team, out, in) != 0) {
            return NONE;
        }
        return courtOf(team).exchange(out, in);
    }

    public int free(int team, int player) {
        if (!isTeam(team) || !course.on) {
            return NONE;
        }
        Court court = courtOf(team);
        if (court.freeMoved || court.freeOne == NONE) {
            return NONE;
        }
        return player == NONE ? court.freeOff() : court.freeOn(player);
    }

    public int pause(int team) {
        if (!isTeam(team) || !course.on) {
            return NONE;
        }
        Court court = courtOf(team);
        if (court.pausesDone >= numbers.valueOf(PAUSES)) {
            return NONE;
        }
        court.pausesDone++;
        return court.pausesDone;
    }

    public int wrong(int k) {
        if (!course.on || k < 0 || k > course.streak) {
            return NONE;
        }
        courtOf(course.serving).points -= k;
        return winRally(1 - course.serving);
    }

    public int at(int team, int place) {
        if (!isTeam(team) || place < 0 || place >= PLACES || course.number == NONE) {
            return NONE;
        }
        return courtOf(team).playerAt(place);
    }

    public int of(int team, int what) {
        if (!isTeam(team)) {
            return NONE;
        }
        Court court = courtOf(team);
        switch (what) {
            case 0: return court.points;
            case 1: return court.setsWon;
            case 2: return court.changesDone;
            case 3: return court.pausesDone;
            case 4: return court.freeStandsFor();
            case 5: return team == course.serving ? course.streak : 0;
            case 6: return court.turnsDone;
            default: return NONE;
        }
    }

    public int count(int what) {
        switch (what) {
            case 0: return course.number;
            case 1: return course.on ? 1 : 0;
            case 2: return course.on ? course.serving : NONE;
            case 3: return course.rallies;
            case 4: return course.matchWinner;
            case 5: return rowSize;
            case 6: return text.length;
            case 7: return course.setWinner;
            default: return NONE;
        }
    }

    public int served(int team, int player) {
        if (!isTeam(team) || !isPlayer(player)) {
            return NONE;
        }
        return courtOf(team).servePoints[player];
    }

    // ---- feet

    public boolean feet(int team, int place, int x, int y) {
        if (!isTeam(team) || place < 0 || place >= PLACES || !course.on) {
            return false;
        }
        if (x < 0 || x > 999 || y < 0 || y > 999) {
            return false;
        }
        stanceOf(team).put(place, x, y);
        return true;
    }

    public int overlap(int team) {
        if (!isTeam(team) || !course.on) {
            return NONE;
        }
        return stanceOf(team).firstBroken(team == course.serving);
    }

    // ---- sheets

    public int sign(int v) {
        if (text.length + 4 > Text.ROOM) {
            return NONE;
        }
        text.append((char) ((v >>> 24) & 255));
        text.append((char) ((v >>> 16) & 255));
        text.append((char) ((v >>> 8) & 255));
        text.append((char) (v & 255));
        return text.length;
    }

    public boolean end(int n) {
        if (n < 0 || n > text.length) {
            return false;
        }
        text.length = n;
        return true;
    }

    public int sheet() {
        int signs = text.length;
        text.length = 0;
        if (!course.on) {
            return NO_SET_FOR_SHEET;
        }
        int fault = text.firstFault(signs);
        if (fault != NONE) {
            return -1 - fault;
        }
        return doItems(signs);
    }

    // ---- chances

    public int odds(int i, int j, int team) {
        if (!isTeam(team) || i < 0 || i >= PLACES || j < 0 || j >= PLACES || !course.on) {
            return NONE;
        }
        takeCourts();
        return chances.rallyChance(squad0, squad1, i, j, team);
    }

    public int chance() {
        if (!course.on) {
            return NONE;
        }
        return chanceNow();
    }

    public int weight() {
        if (!course.on) {
            return NONE;
        }
        chanceNow();
        return chances.weightOfRally(court0.points, court1.points);
    }

    public int turn(int team, int first) {
        if (!isTeam(team) || !isTeam(first) || !squad0.told || !squad1.told) {
            return NONE;
        }
        int best = NONE;
        int bestChance = 0;
        for (int r = 0; r < PLACES; r++) {
            chances.take(0, squad0.lineUp, team == 0 ? r : 0);
            chances.take(1, squad1.lineUp, team == 1 ? r : 0);
            int then = chanceFrom(first, 0, 0);
            if (best == NONE || isBetter(team, then, bestChance)) {
                best = r;
                bestChance = then;
            }
        }
        tellRow(bestChance);
        return best;
    }

    public int advice(int team) {
        if (!isTeam(team) || !course.on) {
            return NONE;
        }
        int best = NONE_BETTER;
        int bestChance = chanceNow();
        for (int out = 0; out < PLAYERS; out++) {
            for (int in = 0; in < PLAYERS; in++) {
                if (may(team, out, in) == 0) {
                    int then = chanceAfter(team, out, in);
                    if (isBetter(team, then, bestChance)) {
                        best = out * PLAYERS + in;
                        bestChance = then;
                    }
                }
            }
        }
        if (best != NONE_BETTER) {
            tellRow(bestChance);
        }
        return best;
    }

    public int row(int i) throws NoSuchElementException {
        if (i < 0 || i >= rowSize) {
            throw new NoSuchElementException();
        }
        return rowNumber;
    }

    // ---- within

    private static boolean isTeam(int team) {
        return team == 0 || team == 1;
    }

    private static boolean isPlayer(int player) {
        return player >= 0 && player < PLAYERS;
    }

    private static int bitOf(int player) {
        return isPlayer(player) ? 1 << player : 0;
    }

    private Squad squadOf(int team) {
        return team == 0 ? squad0 : squad1;
    }

    private Court courtOf(int team) {
        return team == 0 ? court0 : court1;
    }

    private Stance stanceOf(int team) {
        return team == 0 ? stance0 : stance1;
    }

    private int winRally(int team) {
        Court winner = courtOf(team);
        winner.points++;
        if (course.serving == team) {
            winner.countServe();
            course.streak++;
        } else {
            winner.turnOn();
            course.serving = team;
            course.streak = 0;
        }
        course.rallies++;
        court0.freeMoved = false;
        court1.freeMoved = false;
        return closeIfWon(team);
    }

    private int closeIfWon(int team) {
        Court winner = courtOf(team);
        Court other = courtOf(1 - team);
        int target = numbers.target(winner.setsWon, other.setsWon);
        if (!Numbers.wins(winner.points, other.points, target, numbers.valueOf(CAP))) {
            return 0;
        }
        winner.setsWon++;
        course.on = false;
        course.setWinner = team;
        if (winner.setsWon < numbers.valueOf(SETS)) {
            return 1;
        }
        course.matchWinner = team;
        return 2;
    }

    private int doItems(int signs) {
        saveMatch();
        int items = 0;
        int p = 0;
        while (p < signs) {
            if (doItem(p) == NONE) {
                restoreMatch();
                return -1001 - p;
            }
            items++;
            p += Math.max(1, text.itemLength(p));
        }
        return items;
    }

    /** NONE if the item is refused, as the calls that it stands for answer. */
    private int doItem(int p) {
        char first = text.signAt(p);
        if (first == 'A' || first == 'B') {
            return rally(first == 'A' ? 0 : 1);
        }
        int team = first == 'a' ? 0 : 1;
        char kind = text.signAt(p + 1);
        if (kind == '!') {
            return pause(team);
        }
        if (kind == '-') {
            return free(team, NONE);
        }
        if (kind == '*') {
            return free(team, Text.playerOf(text.signAt(p + 2)));
        }
        return change(team, Text.playerOf(kind), Text.playerOf(text.signAt(p + 2)));
    }

    private void saveMatch() {
        savedCourt0.copyFrom(court0);
        savedCourt1.copyFrom(court1);
        savedCourse.copyFrom(course);
    }

    private void restoreMatch() {
        court0.copyFrom(savedCourt0);
        court1.copyFrom(savedCourt1);
        course.copyFrom(savedCourse);
    }

    private void takeCourts() {
        chances.take(0, court0.order, 0);
        chances.take(1, court1.order, 0);
    }

    private int chanceNow() {
        takeCourts();
        return chanceFrom(course.serving, court0.points, court1.points);
    }

    private int chanceFrom(int first, int points0, int points1) {
        chances.fillPhases(squad0, squad1, first);
        int target = numbers.target(court0.setsWon, court1.setsWon);
        return chances.setChance(points0, points1, target, numbers.valueOf(CAP));
    }

    private int chanceAfter(int team, int out, int in) {
        chances.replace(team, out, in);
        int then = chanceFrom(course.serving, court0.points, court1.points);
        chances.replace(team, in, out);
        return then;
    }

    private static boolean isBetter(int team, int chance, int than) {
        return team == 0 ? chance > than : chance < than;
    }

    private void tellRow(int number) {
        rowSize = 1;
        rowNumber = number;
    }

    /** The NUMBERS that a match is played by. */
    private static final class Numbers {
        private static final int[] LEAST = {5, 5, 5, 1, 0, 0};
        private static final int[] MOST = {25, MOST_POINTS, 25, 3, 12, 4};

        private final int[] values;

        Numbers() {
            values = new int[] {25, 30, 15, 2, 6, 2};
        }

        boolean takes(int what, int v) {
            if (what < 0 || what >= values.length || v < LEAST[what] || v > MOST[what]) {
                return false;
            }
            if (what == GOAL) {
                return v <= values[CAP];
            }
            return what != CAP || v >= values[GOAL];
        }

        int valueOf(int what) {
            return what >= 0 && what < values.length ? values[what] : 0;
        }

        void putValue(int what, int v) {
            if (what >= 0 && what < values.length) {
                values[what] = v;
            }
        }

        /** Points of the set that is on, or, between two sets, of the next one. */
        int target(int setsOfOne, int setsOfOther) {
            int lacking = values[SETS] - 1;
            boolean bothCanWin = lacking > 0 && setsOfOne == lacking && setsOfOther == lacking;
            return bothCanWin ? values[LAST] : values[GOAL];
        }

        static boolean wins(int own, int others, int target, int cap) {
            return own >= cap || (own >= target && own - others >= 2);
        }
    }

    /** What is told of a team between its sets: skills, the FREE one, the next LINE-UP. */
    private static final class Squad {
        private final int[] skills;
        private final int[] lineUp;
        private int freeOne;
        private boolean told;

        Squad() {
            skills = new int[PLAYERS * SKILLS];
            for (int k = 0; k < skills.length; k++) {
                skills[k] = 50;
            }
            lineUp = new int[PLACES];
            freeOne = NONE;
            told = false;
        }

        int skillOf(int player, int what) {
            int k = player * SKILLS + what;
            return k >= 0 && k < skills.length ? skills[k] : 0;
        }

        void putSkill(int player, int what, int v) {
            int k = player * SKILLS + what;
            if (k >= 0 && k < skills.length) {
                skills[k] = v;
            }
        }

        void tell(int a, int b, int c, int d, int e, int f) {
            lineUp[0] = a;
            lineUp[1] = b;
            lineUp[2] = c;
            lineUp[3] = d;
            lineUp[4] = e;
            lineUp[5] = f;
            told = true;
        }

        /** The FREE one may have been named after the LINE-UP was told, so it is looked for again. */
        boolean isReady() {
            for (int p = 0; p < PLACES; p++) {
                if (lineUp[p] == freeOne) {
                    return false;
                }
            }
            return told;
        }

        /** A third, cut, of a skill's sum over three places of an order that has turned. */
        int third(int[] order, int turns, int[] places, int what) {
            int sum = 0;
            for (int k = 0; k < places.length; k++) {
                sum += skillOf(order[Math.floorMod(places[k] + turns, PLACES)], what);
            }
            return sum / 3;
        }
    }

    /** One team's side of the match, as far as rallies, changes, pauses and FREE move it on. */
    private static final class Court {
        private static final int NOT_YET_ON = 0;
        private static final int STARTER = 1;
        private static final int GONE_OUT = 2;
        private static final int CAME_IN = 3;
        private static final int CHANGED_BACK = 4;

        /** The six with FREE left aside: the one for whom it stands keeps its place here. */
        private final int[] order;
        private final int[] standing;
        private final int[] cameFor;
        private final int[] servePoints;
        private int freeOne;
        private int freePlace;
        private boolean freeMoved;
        private int points;
        private int setsWon;
        private int changesDone;
        private int pausesDone;
        private int turnsDone;

        Court() {
            order = new int[PLACES];
            standing = new int[PLAYERS];
            cameFor = new int[PLAYERS];
            servePoints = new int[PLAYERS];
            freeOne = NONE;
            freePlace = NONE;
            freeMoved = false;
            points = 0;
            setsWon = 0;
            changesDone = 0;
            pausesDone = 0;
            turnsDone = 0;
        }

        void startSet(Squad squad) {
            for (int player = 0; player < PLAYERS; player++) {
                standing[player] = NOT_YET_ON;
                cameFor[player] = NONE;
            }
            for (int place = 0; place < PLACES; place++) {
                int player = squad.lineUp[place];
                order[place] = player;
                if (isPlayer(player)) {
                    standing[player] = STARTER;
                }
            }
            freeOne = squad.freeOne;
            freePlace = NONE;
            freeMoved = false;
            points = 0;
            changesDone = 0;
            pausesDone = 0;
            turnsDone = 0;
        }

        void copyFrom(Court other) {
            System.arraycopy(other.order, 0, order, 0, PLACES);
            System.arraycopy(other.standing, 0, standing, 0, PLAYERS);
            System.arraycopy(other.cameFor, 0, cameFor, 0, PLAYERS);
            System.arraycopy(other.servePoints, 0, servePoints, 0, PLAYERS);
            freeOne = other.freeOne;
            freePlace = other.freePlace;
            freeMoved = other.freeMoved;
            points = other.points;
            setsWon = other.setsWon;
            changesDone = other.changesDone;
            pausesDone = other.pausesDone;
            turnsDone = other.turnsDone;
        }

        int placeOf(int player) {
            for (int place = 0; place < PLACES; place++) {
                if (order[place] == player) {
                    return place;
                }
            }
            return NONE;
        }

        int playerAt(int place) {
            if (place < 0 || place >= PLACES) {
                return NONE;
            }
            return place == freePlace ? freeOne : order[place];
        }

        int freeStandsFor() {
            return freePlace >= 0 && freePlace < PLACES ? order[freePlace] : NONE;
        }

        void turnOn() {
            int server = order[0];
            for (int place = 1; place < PLACES; place++) {
                order[place - 1] = order[place];
            }
            order[PLACES - 1] = server;
            turnsDone++;
            if (freePlace != NONE) {
                freePlace = freePlace - 1 == LEFT_FRONT ? NONE : freePlace - 1;
            }
        }

        void countServe() {
            int server = order[0];
            if (isPlayer(server)) {
                servePoints[server]++;
            }
        }

        /** FREE itself, and the one for whom it stands, are not among those who may go out. */
        boolean mayLeave(int player) {
            int place = placeOf(player);
            return place != NONE && place != freePlace;
        }

        boolean mayEnter(int player) {
            return placeOf(player) == NONE && player != freeOne;
        }

        boolean arePair(int out, int in) {
            if (!isPlayer(out) || !isPlayer(in)) {
                return false;
            }
            if (standing[out] == STARTER) {
                return standing[in] == NOT_YET_ON;
            }
            return standing[out] == CAME_IN && cameFor[out] == in;
        }

        int exchange(int out, int in) {
            int place = placeOf(out);
            if (place == NONE || !arePair(out, in)) {
                return NONE;
            }
            if (standing[out] == STARTER) {
                standing[out] = GONE_OUT;
                standing[in] = CAME_IN;
                cameFor[in] = out;
            } else {
                standing[out] = CHANGED_BACK;
                standing[in] = CHANGED_BACK;
            }
            order[place] = in;
            changesDone++;
            return place;
        }

        int freeOn(int player) {
            int place = placeOf(player);
            if (freePlace != NONE || (place != LEFT_BEHIND && place != MIDDLE_BEHIND)) {
                return NONE;
            }
            freePlace = place;
            freeMoved = true;
            return place;
        }

        int freeOff() {
            int place = freePlace;
            if (place != NONE) {
                freePlace = NONE;
                freeMoved = true;
            }
            return place;
        }
    }

    /** Where the match is, for both teams together. */
    private static final class Course {
        private int number;
        private boolean on;
        private int serving;
        private int streak;
        private int rallies;
        private int setWinner;
        private int matchWinner;

        Course() {
            number = NONE;
            on = false;
            serving = NONE;
            streak = 0;
            rallies = 0;
            setWinner = NONE;
            matchWinner = NONE;
        }

        void startSet(int team) {
            number++;
            on = true;
            serving = team;
            streak = 0;
            rallies = 0;
            setWinner = NONE;
        }

        void copyFrom(Course other) {
            number = other.number;
            on = other.on;
            serving = other.serving;
            streak = other.streak;
            rallies = other.rallies;
            setWinner = other.setWinner;
            matchWinner = other.matchWinner;
        }
    }

    /** The FEET of one team. */
    private static final class Stance {
        private static final int[] X_AT_FIRST = {800, 800, 500, 200, 200, 500};
        private static final int[] Y_AT_FIRST = {800, 200, 200, 200, 800, 800};
        /** Rule k: the foot of LOWER[k] lies below that of HIGHER[k]; by y ahead of FIRST_BY_X, by x from it on. */
        private static final int[] LOWER = {1, 2, 3, 3, 2, 4, 5};
        private static final int[] HIGHER = {0, 5, 4, 2, 1, 5, 0};
        private static final int FIRST_BY_X = 3;

        private final int[] x;
        private final int[] y;

        Stance() {
            x = new int[PLACES];
            y = new int[PLACES];
        }

        void stand() {
            System.arraycopy(X_AT_FIRST, 0, x, 0, PLACES);
            System.arraycopy(Y_AT_FIRST, 0, y, 0, PLACES);
        }

        void put(int place, int footX, int footY) {
            if (place >= 0 && place < PLACES) {
                x[place] = footX;
                y[place] = footY;
            }
        }

        int firstBroken(boolean serves) {
            for (int rule = 0; rule < LOWER.length; rule++) {
                boolean holds = !serves || HIGHER[rule] != 0;
                int[] foot = rule < FIRST_BY_X ? y : x;
                if (holds && foot[LOWER[rule]] >= foot[HIGHER[rule]]) {
                    return rule;
                }
            }
            return NO_OVERLAP;
        }
    }

    /** THE TEXT, and how it reads as a SHEET. */
    private static final class Text {
        private static final int ROOM = 100;
        private static final int SHEET_ROOM = 80;

        private final char[] signs;
        private int length;

        Text() {
            signs = new char[ROOM];
            length = 0;
        }

        void append(char c) {
            if (length >= 0 && length < ROOM) {
                signs[length] = c;
                length++;
            }
        }

        char signAt(int p) {
            return p >= 0 && p < ROOM ? signs[p] : (char) 0;
        }

        static int playerOf(char c) {
            if (c >= '0' && c <= '9') {
                return c - '0';
            }
            if (c == 'x') {
                return 10;
            }
            return c == 'y' ? 11 : NONE;
        }

        /** Where the first n signs stop being a sheet; NONE if they are one. */
        int firstFault(int n) {
            int readable = Math.min(n, SHEET_ROOM);
            int p = 0;
            while (p < readable) {
                int fault = faultInItem(p);
                if (fault != NONE && fault < readable) {
                    return fault;
                }
                p += Math.max(1, itemLength(p));
            }
            return p > readable || n > SHEET_ROOM ? readable : NONE;
        }

        /** What stands behind the end counts here too: the caller knows where the end is. */
        private int faultInItem(int p) {
            char first = signAt(p);
            if (first == 'A' || first == 'B') {
                return NONE;
            }
            if (first != 'a' && first != 'b') {
                return p;
            }
            char kind = signAt(p + 1);
            if (kind == '!' || kind == '-') {
                return NONE;
            }
            if (kind != '*' && playerOf(kind) == NONE) {
                return p + 1;
            }
            return playerOf(signAt(p + 2)) == NONE ? p + 2 : NONE;
        }

        int itemLength(int p) {
            char first = signAt(p);
            if (first != 'a' && first != 'b') {
                return 1;
            }
            char kind = signAt(p + 1);
            return kind == '!' || kind == '-' ? 2 : 3;
        }
    }

    /**
     * CHANCES of a set. The teams turn in alternation, so from any score on the n-th side-out alone
     * tells both turns and who serves, and that comes round every twelve: twelve phases are all there are.
     */
    private static final class Chances {
        private static final int PHASES = 12;
        private static final int WHOLE = 1000;
        private static final int SURE = 1000000000;

        private final int[] order0;
        private final int[] order1;
        private final int[] phaseChance;
        /** Row a % 2 is for a points of team 0; in it, phase by phase for each number of points of team 1. */
        private final int[][] rows;
        private int first;

        Chances() {
            order0 = new int[PLACES];
            order1 = new int[PLACES];
            phaseChance = new int[PHASES];
            rows = new int[2][(MOST_POINTS + 1) * PHASES];
            first = 0;
        }

        void take(int team, int[] players, int turns) {
            int[] order = team == 0 ? order0 : order1;
            for (int place = 0; place < PLACES; place++) {
                int from = Math.floorMod(place + turns, PLACES);
                if (from < players.length) {
                    order[place] = players[from];
                }
            }
        }

        void replace(int team, int out, int in) {
            int[] order = team == 0 ? order0 : order1;
            for (int place = 0; place < PLACES; place++) {
                if (order[place] == out) {
                    order[place] = in;
                }
            }
        }

        /** CHANCE of the team that serves, behind so many turns of both orders. */
        int rallyChance(Squad squad0, Squad squad1, int turns0, int turns1, int team) {
            Squad own = team == 0 ? squad0 : squad1;
            Squad other = team == 0 ? squad1 : squad0;
            int[] order = team == 0 ? order0 : order1;
            int[] otherOrder = team == 0 ? order1 : order0;
            int turns = team == 0 ? turns0 : turns1;
            int otherTurns = team == 0 ? turns1 : turns0;
            int chance = 380 + own.skillOf(order[Math.floorMod(turns, PLACES)], SERVE)
                    - other.third(otherOrder, otherTurns, BEHIND, PASS)
                    + own.third(order, turns, FRONT, BLOCK)
                    - other.third(otherOrder, otherTurns, FRONT, ATTACK);
            return Math.max(50, Math.min(950, chance));
        }

        void fillPhases(Squad squad0, Squad squad1, int firstServer) {
            first = firstServer;
            for (int phase = 0; phase < PHASES; phase++) {
                int turnsOfFirst = phase / 2;
                int turnsOfSecond = (phase + 1) / 2;
                int turns0 = first == 0 ? turnsOfFirst : turnsOfSecond;
                int turns1 = first == 0 ? turnsOfSecond : turnsOfFirst;
                int server = phase % 2 == 0 ? first : 1 - first;
                phaseChance[phase] = rallyChance(squad0, squad1, turns0, turns1, server);
            }
        }

        /** From the last scores back to the one that is asked for; the row behind it stays for weightOfRally. */
        int setChance(int points0, int points1, int target, int cap) {
            int top = Math.min(cap, MOST_POINTS);
            for (int a = top; a >= points0 && a >= 0; a--) {
                for (int b = top; b >= points1 && b >= 0; b--) {
                    if (Numbers.wins(a, b, target, top)) {
                        fillScore(a, b, SURE);
                    } else if (Numbers.wins(b, a, target, top)) {
                        fillScore(a, b, 0);
                    } else {
                        reckonScore(a, b);
                    }
                }
            }
            return valueAt(points0, points1, 0);
        }

        /** Of the score that setChance was asked for last. */
        int weightOfRally(int points0, int points1) {
            int phaseIf0 = first == 0 ? 0 : 1;
            return valueAt(points0 + 1, points1, phaseIf0) - valueAt(points0, points1 + 1, 1 - phaseIf0);
        }

        private int valueAt(int a, int b, int phase) {
            if (a < 0 || b < 0 || b > MOST_POINTS || phase < 0 || phase >= PHASES) {
                return 0;
            }
            return rows[a & 1][b * PHASES + phase];
        }

        private void fillScore(int a, int b, int value) {
            int[] here = rows[a & 1];
            int start = b * PHASES;
            for (int phase = 0; phase < PHASES; phase++) {
                here[start + phase] = value;
            }
        }

        /** Below the cap for both, so that the next score of each stands in the rows. */
        private void reckonScore(int a, int b) {
            int[] here = rows[a & 1];
            int[] behind = rows[(a + 1) & 1];
            int start = b * PHASES;
            int next = start + PHASES;
            int server = first;
            for (int phase = 0; phase < PHASES; phase++) {
                int turned = phase + 1 < PHASES ? phase + 1 : 0;
                long ifWon = server == 0 ? behind[start + phase] : here[next + phase];
                long ifLost = server == 0 ? here[next + turned] : behind[start + turned];
                long chance = phaseChance[phase];
                here[start + phase] = (int) ((chance * ifWon + (WHOLE - chance) * ifLost) / WHOLE);
                server = 1 - server;
            }
        }
    }
}
