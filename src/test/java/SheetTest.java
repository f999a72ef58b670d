/** Promises 19 to 21: sign, end, sheet. */
public final class SheetTest {
    public static void main(String[] args) {
        signs();
        ends();
        emptiedAlways();
        itemsRead();
        faultsOfSigns();
        longTexts();
        itemsRefused();
        faultsAheadOfRefusals();
        wholeOrNotAtAll();
        freeOnSheets();
        endOfASet();
        sameAsCalls();
        Check.finish();
    }

    private static SixWhoTurn begun() {
        SixWhoTurn x = new SixWhoTurn();
        Check.start(x, 0, 0);
        return x;
    }

    private static void due(SixWhoTurn x, String text, int want) {
        Check.due("sheet \"" + text + "\"", Check.sheet(x, text), want);
    }

    private static void signs() {
        SixWhoTurn x = begun();
        for (int k = 1; k <= 25; k++) {
            Check.due("sign", x.sign(-1), 4 * k);
            Check.due("signs", x.count(6), 4 * k);
        }
        Check.due("one too many", x.sign(0), -1);
        Check.due("signs", x.count(6), 100);
        Check.due("end", x.end(97), true);
        Check.due("still too many", x.sign(0), -1);
        Check.due("signs", x.count(6), 97);
        Check.due("end", x.end(96), true);
        Check.due("just enough", x.sign(0), 100);
        Check.due("text of signs 255", x.sheet(), -1);
        x.sign('A' << 24 | 'B' << 16 | 'A' << 8 | 'A');
        Check.due("highest byte first", x.sheet(), 4);
        Check.due("points of 0", x.of(0, 0), 3);
        Check.due("turns of 0", x.of(0, 6), 1);
        x.sign('A' << 24 | 'A' << 16 | 200 << 8 | 'A');
        Check.due("a high sign", x.sheet(), -3);
        x.sign('A' << 24 | 'A' << 16 | 'A' << 8);
        Check.due("a sign of 0", x.sheet(), -4);
        x.sign(193 << 24 | 'A' << 16 | 'A' << 8 | 'A');
        Check.due("A with a high bit", x.sheet(), -1);
    }

    private static void ends() {
        SixWhoTurn x = begun();
        Check.due("end(0) of none", x.end(0), true);
        Check.due("end(1) of none", x.end(1), false);
        x.sign(0x41414141);
        for (int n : new int[] {-1, 5, Integer.MIN_VALUE, Integer.MAX_VALUE}) {
            Check.due("end(" + n + ")", x.end(n), false);
        }
        Check.due("signs", x.count(6), 4);
        Check.due("end(4)", x.end(4), true);
        Check.due("end(1)", x.end(1), true);
        Check.due("end(2) then", x.end(2), false);
        Check.due("signs", x.count(6), 1);
        Check.due("sign behind it", x.sign(0x42424242), 5);
        Check.due("sheet", x.sheet(), 5);
        Check.due("points of 1", x.of(1, 0), 4);
        Check.due("points of 0", x.of(0, 0), 1);
    }

    private static void emptiedAlways() {
        SixWhoTurn x = new SixWhoTurn();
        x.sign(0x41414141);
        Check.due("no set", x.sheet(), -100);
        Check.due("signs", x.count(6), 0);
        x.sign(0);
        Check.due("no set is asked first", x.sheet(), -100);
        Check.due("no set, empty", x.sheet(), -100);
        Check.start(x, 0, 0);
        Check.due("empty", x.sheet(), 0);
        due(x, "C", -1);
        due(x, "a-", -1001);
        due(x, "A", 1);
    }

    private static void itemsRead() {
        SixWhoTurn x = begun();
        due(x, "A", 1);
        due(x, "BA", 2);
        due(x, "a!", 1);
        due(x, "b!a!", 2);
        due(x, "a06b60", 2);
        due(x, "a1xa2yb82", 3);
        Check.six(x, 0, 10, 11, 3, 4, 5, 6);
        Check.due("changes of 0", x.of(0, 2), 3);
        Check.due("changes of 1", x.of(1, 2), 2);
        due(x, "ax1ay2", 2);
        Check.six(x, 0, 1, 2, 3, 4, 5, 6);
        Check.due("pauses", x.of(0, 3), 2);
        Check.due("pauses", x.of(1, 3), 1);
    }

    private static void faultsOfSigns() {
        String wrong = "Ccz0xy!*- \u0000\u0080\u00c1\u00e1\u00ff@`";
        for (int k = 0; k < wrong.length(); k++) {
            char c = wrong.charAt(k);
            SixWhoTurn x = begun();
            due(x, "" + c, -1);
            due(x, "A" + c, -2);
            due(x, "a!" + c, -3);
        }
        String noKind = "ABabzXY+/: \u0000\u00b0\u00ff";
        for (int k = 0; k < noKind.length(); k++) {
            char c = noKind.charAt(k);
            SixWhoTurn x = begun();
            due(x, "a" + c, -2);
            due(x, "Ab" + c + "1", -3);
            due(x, "a1" + c, -3);
            due(x, "a*" + c, -3);
            due(x, "AAb*" + c, -5);
        }
        SixWhoTurn x = begun();
        due(x, "a1!", -3);
        due(x, "a1*", -3);
        due(x, "a1-", -3);
        due(x, "a**", -3);
        due(x, "a*-", -3);
        due(x, "a", -2);
        due(x, "b", -2);
        due(x, "a*", -3);
        due(x, "ax", -3);
        due(x, "Bb9", -4);
        due(x, "a!a", -4);
        Check.due("nothing was done", x.count(3), 0);
        Check.due("no pause", x.of(0, 3), 0);
    }

    private static String times(String item, int n) {
        StringBuilder text = new StringBuilder();
        for (int k = 0; k < n; k++) {
            text.append(item);
        }
        return text.toString();
    }

    private static void longTexts() {
        SixWhoTurn x = begun();
        due(x, times("AB", 24), 48);
        Check.due("rallies", x.count(3), 48);
        SixWhoTurn y = begun();
        String eighty = times("AB", 20) + times("a!", 20);
        due(y, eighty, -1001 - 44);
        due(y, eighty + "A", -81);
        due(y, eighty + "?", -81);
        due(y, eighty + times("A", 20), -81);
        String seventyNine = times("A", 79);
        due(y, seventyNine + "a", -81);
        due(y, seventyNine + "a!", -81);
        due(y, seventyNine + "a1", -81);
        due(y, seventyNine + "a??", -81);
        due(y, seventyNine + "?a!", -80);
        due(y, times("A", 78) + "a1", -81);
        due(y, times("A", 78) + "a10", -81);
        due(y, times("A", 78) + "a1?", -81);
        due(y, times("A", 78) + "a?1", -80);
        due(y, times("A", 77) + "a1?", -80);
        due(y, times("A", 77) + "a1?A", -80);
        due(y, "?" + times("A", 99), -1);
        Check.due("nothing was done", y.count(3), 0);
        due(y, times("A", 20) + times("B", 3), 23);
    }

    private static void itemsRefused() {
        SixWhoTurn x = begun();
        due(x, "a-", -1001);
        due(x, "a*4", -1001);
        due(x, "Aa11", -1002);
        due(x, "ABa67", -1003);
        due(x, "a06Aa16", -1005);
        due(x, "a!a!a!", -1005);
        due(x, "b!Ab!b!A", -1006);
        Check.due("nothing was done", x.count(3), 0);
        Check.due("no pause", x.of(1, 3), 0);
        Check.due("no change", x.of(0, 2), 0);
    }

    private static void faultsAheadOfRefusals() {
        SixWhoTurn x = begun();
        due(x, "a-?", -3);
        due(x, "a-Aa", -5);
        due(x, "a-" + times("A", 79), -81);
    }

    private static void wholeOrNotAtAll() {
        SixWhoTurn x = new SixWhoTurn();
        x.set(0, 5);
        x.set(1, 5);
        x.set(3, 1);
        x.libre(0, 11);
        x.libre(1, 0);
        Check.start(x, 0, 0);
        Check.rallies(x, "BA", 0);
        Check.due("on", x.free(0, 5), 4);
        due(x, "BAa16b*7Bb-a-AAAa!A", -1001 - 11);
        Check.six(x, 0, 1, 2, 3, 4, 11, 0);
        Check.six(x, 1, 7, 8, 9, 10, 11, 6);
        int[] of0 = {1, 0, 0, 0, 5, 0, 1};
        int[] of1 = {1, 0, 0, 0, -1, 0, 1};
        for (int what = 0; what < 7; what++) {
            Check.due("of(0, " + what + ")", x.of(0, what), of0[what]);
            Check.due("of(1, " + what + ")", x.of(1, what), of1[what]);
        }
        Check.due("once between two rallies, still", x.free(0, -1), -1);
        Check.due("rallies", x.count(3), 2);
        due(x, "AAAAA", -1005);
        Check.due("the set is on again", x.count(1), 1);
        Check.due("no match is won", x.count(4), -1);
        Check.due("no set is won", x.count(7), -1);
        Check.due("no set of 0", x.of(0, 1), 0);
        Check.due("who serves", x.count(2), 0);
        Check.due("no serve counted", x.served(0, 1), 0);
        Check.due("may all the same", x.may(0, 1, 6), 0);
        due(x, "a16A", 2);
        due(x, "AAa61a61", -1006);
        Check.due("the one that came is still to go back", x.may(0, 6, 1), 0);
        Check.due("served by who came in", x.served(0, 6), 1);
        due(x, "AAA", 3);
        Check.due("the match", x.count(4), 0);
    }

    private static void freeOnSheets() {
        SixWhoTurn x = new SixWhoTurn();
        x.libre(0, 11);
        x.libre(1, 0);
        Check.start(x, 0, 0);
        due(x, "a*4Aa-b*xA", 5);
        due(x, "a*5a-", -1004);
        due(x, "b-b*y", -1003);
        due(x, "a*0", -1001);
        due(x, "a*5Aa-A", 4);
        due(x, "bx5", -1001);
        Check.due("stands for", x.of(1, 4), 10);
        Check.due("at", x.at(1, 4), 0);
        due(x, "b-", 1);
        due(x, "Ab*y", 2);
        Check.due("at", x.at(1, 5), 0);
    }

    private static void endOfASet() {
        SixWhoTurn x = new SixWhoTurn();
        x.set(0, 5);
        x.set(1, 5);
        Check.start(x, 0, 0);
        due(x, "AAAAAB", -1006);
        due(x, "AAAAAa!", -1006);
        due(x, "AAAAAa-", -1006);
        due(x, "AAAAAa06", -1006);
        due(x, "AAAAA", 5);
        Check.due("won by", x.count(7), 0);
        due(x, "", -100);
        Check.start(x, 0, 1);
        due(x, "AAAAA", 5);
        Check.due("match", x.count(4), 0);
        due(x, "A", -100);
    }

    private static void sameAsCalls() {
        SixWhoTurn x = begun();
        SixWhoTurn y = begun();
        due(x, "ABBa!a06Bb93AB", 9);
        Check.rallies(y, "ABB", 0);
        y.pause(0);
        y.change(0, 0, 6);
        Check.rallies(y, "B", 0);
        y.change(1, 9, 3);
        Check.rallies(y, "AB", 0);
        for (int team = 0; team < 2; team++) {
            for (int place = 0; place < 6; place++) {
                Check.due("at", x.at(team, place), y.at(team, place));
            }
            for (int what = 0; what < 7; what++) {
                Check.due("of", x.of(team, what), y.of(team, what));
            }
            for (int player = 0; player < 12; player++) {
                Check.due("served", x.served(team, player), y.served(team, player));
            }
        }
        Check.due("chance", x.chance(), y.chance());
    }
}
