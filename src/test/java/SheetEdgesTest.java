/** The boundaries that promises 19 to 21 and Terms 4 name: the text, its end, sheets to their first fault. */
public final class SheetEdgesTest {
    private static final String PLAYERS = "0123456789xy";

    public static void main(String[] args) {
        signsToAHundred();
        signBytes();
        aRefusedSignStaysOut();
        endFromNoughtToAll();
        textOutlivesAllElse();
        noSetIsAskedFirst();
        anEmptySheet();
        everySignFirst();
        everySignSecond();
        everySignThird();
        endsTooEarly();
        eightySignsTaken();
        beyondEighty();
        itemAcrossTheEightieth();
        firstFaultAheadOfEighty();
        signFaultsAheadOfRefusedItems();
        everyItemRefused();
        behindTheEndOfASet();
        theLastItemEndsTheMatch();
        refusedSheetsGiveBackAll();
        aSheetIsItsCalls();
        Check.finish();
    }

    private static SixWhoTurn begun() {
        SixWhoTurn x = new SixWhoTurn();
        x.set(0, 5);
        Check.start(x, 0, 0);
        return x;
    }

    private static void due(SixWhoTurn x, String text, int want) {
        Check.due("sheet \"" + text + "\"", Check.sheet(x, text), want);
    }

    /** A text that is refused, of a new object, so that none has more than 512 calls. */
    private static void refused(String text, int want) {
        SixWhoTurn x = begun();
        due(x, text, want);
        Check.due("RALLIES", x.count(3), 0);
        Check.due("CHANGES", x.of(0, 2) + x.of(1, 2), 0);
        Check.due("PAUSES", x.of(0, 3) + x.of(1, 3), 0);
    }

    // ---- promise 19

    /** "Refused: there would be more than 100": from every length. */
    private static void signsToAHundred() {
        for (int n = 0; n <= 100; n++) {
            SixWhoTurn x = new SixWhoTurn();
            for (int k = 0; k < 25; k++) {
                Check.due("sign", x.sign(0x41424142), 4 * k + 4);
            }
            Check.due("one more", x.sign(0), -1);
            Check.due("end", x.end(n), true);
            Check.due("sign behind " + n, x.sign(0), n <= 96 ? n + 4 : -1);
            Check.due("signs", x.count(6), n <= 96 ? n + 4 : n);
        }
    }

    /** "of v the highest byte first", and each byte whole, with the highest bit too. */
    private static void signBytes() {
        SixWhoTurn x = begun();
        String[] texts = {"BAAA", "ABAA", "AABA", "AAAB"};
        int[] turns = {1, 1, 1, 0};
        for (int k = 0; k < 4; k++) {
            SixWhoTurn y = begun();
            Check.due("sign", y.sign(0x41414141 + (1 << 8 * (3 - k))), 4);
            Check.due("sheet " + texts[k], y.sheet(), 4);
            Check.due("TURNS of 0", y.of(0, 6), turns[k]);
            Check.due("points of 1", y.of(1, 0), 1);
            Check.due("served first", y.served(0, 0), k);
        }
        for (int k = 0; k < 4; k++) {
            Check.due("sign", x.sign(0x41424142 ^ 0x80 << 8 * (3 - k)), 4);
            Check.due("a high bit at " + k, x.sheet(), -1 - k);
            Check.due("sign", x.sign(0x41424142 & ~(0xff << 8 * (3 - k))), 4);
            Check.due("a byte of 0 at " + k, x.sheet(), -1 - k);
        }
        for (int v : new int[] {0, -1, Integer.MIN_VALUE, Integer.MAX_VALUE}) {
            Check.due("sign(" + v + ")", x.sign(v), 4);
            Check.due("none of these stands first", x.sheet(), -1);
        }
    }

    /** A refused sign leaves no part of itself behind. */
    private static void aRefusedSignStaysOut() {
        SixWhoTurn x = begun();
        Check.write(x, "?".repeat(97));
        Check.due("too many", x.sign(0x41414141), -1);
        Check.due("signs", x.count(6), 97);
        Check.due("end", x.end(98), false);
        Check.due("end", x.end(0), true);
        Check.due("the first sign is new", x.sign('A' << 24 | '?' << 16), 4);
        Check.due("sheet", x.sheet(), -2);
    }

    // ---- promise 20

    /** "false if it has not so many, or n is below 0" */
    private static void endFromNoughtToAll() {
        for (int length = 0; length <= 100; length += 4) {
            SixWhoTurn x = new SixWhoTurn();
            for (int k = 0; k < length; k += 4) {
                x.sign(0);
            }
            for (int n : new int[] {Integer.MIN_VALUE, -1, length + 1, length + 4, Integer.MAX_VALUE}) {
                Check.due("end(" + n + ") of " + length, x.end(n), false);
                Check.due("signs", x.count(6), length);
            }
            for (int n = length; n >= 0; n--) {
                Check.due("end(" + n + ")", x.end(n), true);
                Check.due("signs", x.count(6), n);
                Check.due("one more than it has", x.end(n + 1), false);
            }
            Check.due("end(0) of none", x.end(0), true);
        }
    }

    /** THE TEXT is written in any state, and stays through sets until a sheet takes it. */
    private static void textOutlivesAllElse() {
        SixWhoTurn x = new SixWhoTurn();
        x.set(0, 5);
        Check.due("ahead of a SET", x.sign(0x41414141), 4);
        Check.start(x, 1, 0);
        Check.due("in a SET", x.sign(0x42424242), 8);
        Check.rallies(x, "AAAAA", 1);
        Check.due("between SETS", x.sign(0x41414141), 12);
        Check.start(x, 1, 1);
        Check.due("end", x.end(6), true);
        Check.due("sheet", x.sheet(), 6);
        Check.due("4:2", x.of(0, 0) * 10 + x.of(1, 0), 42);
        Check.rallies(x, "A", 2);
        Check.due("behind THE MATCH", x.sign(0), 4);
        Check.due("behind THE MATCH", x.end(3), true);
        Check.due("behind THE MATCH", x.count(6), 3);
    }

    // ---- promise 21

    /** "-100: no SET is on (asked first)", and THE TEXT "is empty then". */
    private static void noSetIsAskedFirst() {
        SixWhoTurn x = new SixWhoTurn();
        x.set(0, 5);
        for (int state = 0; state < 4; state++) {
            for (String text : new String[] {"", "A", "?", "a", "a-", "A".repeat(81), "A".repeat(100)}) {
                due(x, text, -100);
            }
            if (state == 0) {
                x.lineUp(0, 0, 1, 2, 3, 4, 5);
                x.lineUp(1, 6, 7, 8, 9, 10, 11);
            } else if (state < 3) {
                Check.start(x, 0, state - 1);
                due(x, "", 0);
                Check.rallies(x, "AAAAA", state);
            }
        }
    }

    /** "An empty one: 0." */
    private static void anEmptySheet() {
        SixWhoTurn x = begun();
        Check.due("never written", x.sheet(), 0);
        x.sign(0x3f3f3f3f);
        Check.due("end(0)", x.end(0), true);
        Check.due("emptied", x.sheet(), 0);
        due(x, "A", 1);
        Check.due("emptied by a sheet", x.sheet(), 0);
        due(x, "?", -1);
        Check.due("emptied by a fault", x.sheet(), 0);
        due(x, "a-", -1001);
        Check.due("emptied by a refused ITEM", x.sheet(), 0);
        due(x, "A".repeat(81), -81);
        Check.due("emptied by too many", x.sheet(), 0);
        Check.due("RALLIES", x.count(3), 1);
    }

    /** Each of 256 signs where an ITEM begins. */
    private static void everySignFirst() {
        for (int c = 0; c < 256; c++) {
            SixWhoTurn x = begun();
            boolean rally = c == 'A' || c == 'B';
            boolean team = c == 'a' || c == 'b';
            due(x, "" + (char) c, rally ? 1 : team ? -2 : -1);
            due(x, "BA" + (char) c, rally ? 3 : team ? -4 : -3);
            due(x, "b!" + (char) c, rally ? 2 : team ? -4 : -3);
        }
    }

    /** Each of 256 signs behind a or b. */
    private static void everySignSecond() {
        for (int c = 0; c < 256; c++) {
            boolean player = PLAYERS.indexOf(c) >= 0;
            for (int team = 0; team < 2; team++) {
                SixWhoTurn x = begun();
                String item = (team == 0 ? "a" : "b") + (char) c;
                int due = c == '!' ? 1 : c == '-' ? -1001 : player || c == '*' ? -3 : -2;
                due(x, item, due);
                Check.due("PAUSES", x.of(team, 3), c == '!' ? 1 : 0);
            }
        }
    }

    /** Each of 256 signs behind a PLAYER, and behind *: what a PLAYER is, by its number. */
    private static void everySignThird() {
        for (int c = 0; c < 256; c++) {
            int player = PLAYERS.indexOf(c);
            SixWhoTurn x = begun();
            due(x, "a3" + (char) c, player < 0 ? -3 : player < 6 ? -1001 : 1);
            Check.due("at", x.at(0, 3), player < 6 ? 3 : player);
            SixWhoTurn y = new SixWhoTurn();
            y.libre(1, 0);
            Check.start(y, 0, 0);
            due(y, "b*" + (char) c, player < 0 ? -3 : player < 10 ? -1001 : 1);
            Check.due("stands for", y.of(1, 4), player < 10 ? -1 : player);
            SixWhoTurn z = begun();
            due(z, "b" + (char) c + "1", player < 0 ? c == '*' ? -1001 : c == '!' || c == '-' ? -3 : -2 : player < 6 ? -1001 : 1);
            Check.due("CHANGES done", z.of(1, 2), player < 6 ? 0 : 1);
        }
    }

    /** "its end, if it ends too early" */
    private static void endsTooEarly() {
        for (String part : new String[] {"a", "b", "a*", "b*", "a0", "by"}) {
            for (int n = 0; n + part.length() <= 80; n++) {
                refused("A".repeat(n) + part, -1 - n - part.length());
            }
        }
    }

    /** "texts of at most 80 signs": 80 of them taken, all twelve CHANGES of both and eight RALLIES. */
    private static void eightySignsTaken() {
        for (int more = 0; more <= 1; more++) {
            SixWhoTurn x = new SixWhoTurn();
            x.set(4, 12);
            Check.start(x, 0, 0);
            StringBuilder text = new StringBuilder("ABABABAB");
            for (int k = 0; k < 12; k++) {
                text.append('a').append(PLAYERS.charAt(k)).append(PLAYERS.charAt((k + 6) % 12));
                text.append('b').append(PLAYERS.charAt((k + 6) % 12)).append(PLAYERS.charAt(k));
            }
            text.append(more == 1 ? "A" : "");
            due(x, text.toString(), more == 0 ? 32 : -81);
            Check.due("CHANGES of 0", x.of(0, 2), more == 0 ? 12 : 0);
            Check.due("CHANGES of 1", x.of(1, 2), more == 0 ? 12 : 0);
            Check.due("RALLIES", x.count(3), more == 0 ? 8 : 0);
        }
    }

    /** "80, if it has more and the first 80 can be read whole": whatever the rest is. */
    private static void beyondEighty() {
        String eighty = "AB".repeat(25) + "a!b-a*3".repeat(4) + "b!";
        Check.due("signs", eighty.length(), 80);
        refused(eighty, -1001 - 52);
        for (int n = 81; n <= 100; n++) {
            refused(eighty + "A".repeat(n - 80), -81);
            refused(eighty + "?".repeat(n - 80), -81);
            refused(eighty + "\u0000".repeat(n - 80), -81);
        }
    }

    /** "or end in an ITEM": an ITEM that begins ahead of the 80th sign and is not over there. */
    private static void itemAcrossTheEightieth() {
        for (String rest : new String[] {"a!", "a-", "a1", "a*", "a?", "a12", "a*1", "a??", "aA", "b!A"}) {
            refused("A".repeat(79) + rest, -81);
        }
        for (String rest : new String[] {"a12", "a*1", "a1?", "a*?", "bxA", "b*aAAAAA"}) {
            refused("A".repeat(78) + rest, -81);
        }
        // The text ends there: its end is the 80th too.
        refused("A".repeat(79) + "a", -81);
        refused("A".repeat(78) + "a1", -81);
        refused("A".repeat(78) + "b*", -81);
    }

    private static void firstFaultAheadOfEighty() {
        for (int p = 0; p < 80; p++) {
            refused("A".repeat(p) + "?" + "A".repeat(99 - p), -1 - p);
            refused("B".repeat(p) + "C" + "?".repeat(80 - p), -1 - p);
        }
        for (int p = 0; p < 79; p++) {
            refused("A".repeat(p) + "a?" + "A".repeat(98 - p), -2 - p);
        }
        for (int p = 0; p < 78; p++) {
            refused("A".repeat(p) + "a1?" + "A".repeat(97 - p), -3 - p);
            refused("A".repeat(p) + "b*!" + "A".repeat(97 - p), -3 - p);
        }
        refused("A".repeat(80) + "?", -81);
    }

    /** "refused (of what can be read as a whole ...)": a sign that can't stand comes first, wherever it is. */
    private static void signFaultsAheadOfRefusedItems() {
        refused("a-", -1001);
        refused("a-A?", -4);
        refused("a-Aa", -5);
        refused("a-Aa*", -6);
        refused("a00?", -4);
        refused("AAAAAA?", -7);
        refused("a-" + "A".repeat(78), -1001);
        refused("a-" + "A".repeat(79), -81);
    }

    /** "the ITEM that begins at p is refused": each kind, first, and behind others. */
    private static void everyItemRefused() {
        for (int team = 0; team < 2; team++) {
            String t = team == 0 ? "a" : "b";
            String on = team == 0 ? "3" : "9";
            String in = team == 0 ? "9" : "3";
            String[] refused = {t + "!" + t + "!" + t + "!", t + in + on, t + on + on, t + "-", t + "*" + on,
                t + on + in + t + on + in};
            int[] at = {4, 0, 0, 0, 0, 3};
            for (int k = 0; k < refused.length; k++) {
                SixWhoTurn x = begun();
                due(x, refused[k], -1001 - at[k]);
                due(x, "A" + refused[k], -1002 - at[k]);
                due(x, "BA" + refused[k] + "B", -1003 - at[k]);
                Check.due("RALLIES", x.count(3), 0);
                Check.due("PAUSES", x.of(team, 3), 0);
                Check.due("CHANGES", x.of(team, 2), 0);
                due(x, t + "!" + t + "!" + t + on + in, 3);
            }
        }
    }

    /** "what is behind the end of a SET, too" */
    private static void behindTheEndOfASet() {
        for (int sets = 1; sets <= 2; sets++) {
            for (String item : new String[] {"A", "B", "a!", "b!", "a-", "a*4", "a06", "b60"}) {
                SixWhoTurn x = new SixWhoTurn();
                x.set(0, 5);
                x.set(3, sets);
                x.libre(0, 11);
                Check.start(x, 0, 0);
                due(x, "AAAAA" + item, -1006);
                due(x, "AAAAA" + item + item, -1006);
                due(x, "AAAA" + item, item.equals("a-") ? -1005 : 5);
            }
        }
    }

    /** A sheet may end a SET, or THE MATCH, with its last ITEM. */
    private static void theLastItemEndsTheMatch() {
        SixWhoTurn x = begun();
        due(x, "BBBBAAAAAA", 10);
        Check.due("won by", x.count(7), 0);
        Check.due("SETS", x.of(0, 1), 1);
        Check.due("THE MATCH", x.count(4), -1);
        due(x, "A", -100);
        Check.start(x, 0, 1);
        due(x, "AAAA", 4);
        due(x, "AA", -1002);
        Check.due("on still", x.count(1), 1);
        due(x, "A", 1);
        Check.due("THE MATCH", x.count(4), 0);
        due(x, "", -100);
    }

    /** "A sheet is taken as a whole or not at all": all that an ITEM moves is given back. */
    private static void refusedSheetsGiveBackAll() {
        SixWhoTurn x = begun();
        Check.rallies(x, "AAA", 0);
        due(x, "BAa-", -1003);
        Check.due("points since it came to serve", x.of(0, 5), 3);
        due(x, "Aa-", -1002);
        Check.due("points since it came to serve", x.of(0, 5), 3);
        Check.due("served", x.served(0, 0), 3);
        Check.due("RALLIES", x.count(3), 3);
        Check.due("TURNS", x.of(1, 6), 0);
        due(x, "AAA", -1003);
        Check.due("the SET is on", x.count(1), 1);
        Check.due("SETS", x.of(0, 1), 0);
        Check.due("all three fall", x.wrong(3), 0);
        Check.due("points of 0", x.of(0, 0), 0);
        Twins.Steps before = y -> {
            y.set(0, 5);
            y.set(3, 1);
            y.libre(0, 11);
            y.libre(1, 0);
            Check.start(y, 0, 0);
            Check.rallies(y, "AAB", 0);
            y.change(0, 0, 6);
            y.free(1, 6);
            y.pause(1);
            y.feet(0, 3, 700, 100);
        };
        for (String text : new String[] {"Ba!a-", "a60b-", "a17a28a-", "BAb-b*6", "a*4BBa-a-", "AAAA", "b!b!", "ABABABa0"}) {
            Twins.alike("sheet " + text, y -> {
                before.on(y);
                Check.due("refused", Check.sheet(y, text) < 0, true);
            }, before);
        }
    }

    /** "all is as if its ITEMS had been done": each kind of ITEM beside its call. */
    private static void aSheetIsItsCalls() {
        Twins.Steps before = y -> {
            y.set(0, 8);
            y.libre(0, 11);
            y.libre(1, 0);
            Check.start(y, 0, 0);
        };
        alike(before, "A", y -> y.rally(0));
        alike(before, "B", y -> y.rally(1));
        alike(before, "a!", y -> y.pause(0));
        alike(before, "b!", y -> y.pause(1));
        alike(before, "a07", y -> y.change(0, 0, 7));
        alike(before, "by1", y -> y.change(1, 11, 1));
        alike(before, "bx5", y -> y.change(1, 10, 5));
        alike(before, "a0x", y -> y.change(0, 0, 10));
        alike(before, "a*4", y -> y.free(0, 4));
        alike(before, "b*y", y -> y.free(1, 11));
        alike(before, "a*5Ba-", y -> {
            y.free(0, 5);
            y.rally(1);
            y.free(0, -1);
        });
        alike(before, "a07Ba!BBb!b82BABb*7ABa70", y -> {
            y.change(0, 0, 7);
            y.rally(1);
            y.pause(0);
            Check.rallies(y, "BB", 0);
            y.pause(1);
            y.change(1, 8, 2);
            Check.rallies(y, "BAB", 0);
            Check.due("free", y.free(1, 7), 5);
            Check.rallies(y, "AB", 0);
            y.change(0, 7, 0);
        });
        freeTakenOffByATurn(before);
    }

    /** Where a TURN has brought FREE to PLACE 3, it is not on, and the sheet that takes it off is refused. */
    private static void freeTakenOffByATurn(Twins.Steps before) {
        Twins.alike("FREE off behind a TURN", y -> {
            before.on(y);
            due(y, "b*xABb-", -1006);
        }, before);
    }

    private static void alike(Twins.Steps before, String text, Twins.Steps calls) {
        Twins.alike("sheet " + text, y -> {
            before.on(y);
            Check.due("sheet " + text, Check.sheet(y, text) > 0, true);
        }, y -> {
            before.on(y);
            calls.on(y);
        });
    }
}
