/** Counts answers that are not as due, and ends the test by them. */
final class Check {
    private static int asked = 0;
    private static int wrong = 0;

    private Check() {
    }

    static void due(String call, long got, long want) {
        asked++;
        if (got != want) {
            wrong++;
            if (wrong <= 40) {
                System.out.println(call + " answered " + got + ", due is " + want);
            }
        }
    }

    static void due(String call, boolean got, boolean want) {
        due(call, got ? 1 : 0, want ? 1 : 0);
    }

    /** What row(i) answers, or Long.MIN_VALUE if it throws NoSuchElementException. */
    static long row(SixWhoTurn x, int i) {
        try {
            return x.row(i);
        } catch (java.util.NoSuchElementException e) {
            return Long.MIN_VALUE;
        }
    }

    /** Puts a text, sign by sign, behind THE TEXT of x, which is empty. */
    static void write(SixWhoTurn x, String text) {
        int k = 0;
        while (k < text.length()) {
            int v = 0;
            for (int b = 0; b < 4; b++) {
                v = v << 8 | (k + b < text.length() ? text.charAt(k + b) & 255 : 0);
            }
            due("sign for \"" + text + "\"", x.sign(v), k + 4);
            k += 4;
        }
        due("end for \"" + text + "\"", x.end(text.length()), true);
    }

    static int sheet(SixWhoTurn x, String text) {
        write(x, text);
        int answer = x.sheet();
        due("count(6) behind sheet \"" + text + "\"", x.count(6), 0);
        return answer;
    }

    /** Both line-ups, 0 .. 5 against 6 .. 11, and a team to serve. */
    static void start(SixWhoTurn x, int team, int number) {
        due("lineUp of 0", x.lineUp(0, 0, 1, 2, 3, 4, 5), true);
        due("lineUp of 1", x.lineUp(1, 6, 7, 8, 9, 10, 11), true);
        due("begin", x.begin(team), number);
    }

    /** Rallies by the signs A and B; all but the last one leave the set on. */
    static void rallies(SixWhoTurn x, String winners, int last) {
        for (int k = 0; k < winners.length(); k++) {
            int want = k + 1 < winners.length() ? 0 : last;
            due("rally " + k + " of " + winners, x.rally(winners.charAt(k) == 'A' ? 0 : 1), want);
        }
    }

    static void six(SixWhoTurn x, int team, int... players) {
        for (int place = 0; place < 6; place++) {
            due("at(" + team + ", " + place + ")", x.at(team, place), players[place]);
        }
    }

    static void finish() {
        System.out.println(asked + " answers, " + wrong + " not as due");
        if (wrong != 0) {
            System.exit(1);
        }
    }
}
