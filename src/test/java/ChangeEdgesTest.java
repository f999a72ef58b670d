/** The boundaries that promises 8 to 11 and Terms 2 name: changes, FREE, pauses. */
public final class ChangeEdgesTest {
    private static final int[] NO_TEAM = {-2, -1, 2, 3, Integer.MIN_VALUE, Integer.MAX_VALUE};

    public static void main(String[] args) {
        mayOfNoTeam();
        mayWithNoSet();
        mayOfEveryPairAtFirst();
        mayTellsTheFirstReason();
        outForOneNeverOn();
        backToItsOwnPlaceAlone();
        neverAgain();
        noneOfTheLineUpForAnother();
        changesAreCounted();
        everyPlayerAnewInANewSet();
        neverOfFree();
        changeTellsThePlace();
        freeAtFourAndFive();
        freeForNobodyElse();
        freeJustOnce();
        aRefusedFreeIsNotCounted();
        freeComesBackAtThree();
        freeStaysForThatOne();
        freeOfNoTeam();
        pausesAreCounted();
        pausesByState();
        Check.finish();
    }

    private static SixWhoTurn match(int changes, int pauses) {
        SixWhoTurn x = new SixWhoTurn();
        x.set(0, 5);
        x.set(4, changes);
        x.set(5, pauses);
        return x;
    }

    // ---- promise 8

    /** "NONE: no such TEAM", with and without a SET. */
    private static void mayOfNoTeam() {
        SixWhoTurn x = match(6, 2);
        for (int state = 0; state < 2; state++) {
            for (int team : NO_TEAM) {
                Check.due("may", x.may(team, 0, 6), -1);
                Check.due("may of nobody", x.may(team, -1, 99), -1);
                Check.due("change", x.change(team, 0, 6), -1);
            }
            if (state == 0) {
                Check.start(x, 0, 0);
            }
        }
    }

    /** "1 no SET is on", ahead of all that follows. */
    private static void mayWithNoSet() {
        SixWhoTurn x = match(6, 2);
        for (int state = 0; state < 3; state++) {
            Check.due("may", x.may(0, 0, 6), 1);
            Check.due("no such PLAYERS", x.may(1, -1, 12), 1);
            Check.due("one alone", x.may(1, 6, 6), 1);
            Check.due("who comes in is on", x.may(0, 0, 1), 1);
            Check.due("change", x.change(0, 0, 6), -1);
            if (state == 0) {
                x.lineUp(0, 0, 1, 2, 3, 4, 5);
                x.lineUp(1, 6, 7, 8, 9, 10, 11);
            } else if (state == 1) {
                Check.due("begin", x.begin(0), 0);
                Check.due("a SET is on", x.may(0, 0, 6), 0);
                Check.rallies(x, "AAAAA", 1);
            }
        }
    }

    /** 2, 3, 4 and 0 of every pair, those beside 0 .. 11 too. */
    private static void mayOfEveryPairAtFirst() {
        SixWhoTurn x = match(6, 2);
        x.libre(0, 11);
        Check.start(x, 0, 0);
        for (int out = -2; out <= 13; out++) {
            for (int in = -2; in <= 13; in++) {
                boolean such = out >= 0 && out <= 11 && in >= 0 && in <= 11 && out != in;
                int due = !such ? 2 : out > 5 ? 3 : in < 6 || in == 11 ? 4 : 0;
                Check.due("may(0, " + out + ", " + in + ")", x.may(0, out, in), due);
            }
        }
    }

    /** "the first of these": each reason with all later ones. */
    private static void mayTellsTheFirstReason() {
        SixWhoTurn x = match(1, 2);
        x.libre(0, 11);
        Check.start(x, 0, 0);
        Check.due("change", x.change(0, 0, 6), 0);
        Check.due("free", x.free(0, 4), 4);
        Check.due("2, not on and gone", x.may(0, 7, 7), 2);
        Check.due("2, FREE alone", x.may(0, 11, 11), 2);
        Check.due("2, no such one for one who is on", x.may(0, 12, 1), 2);
        Check.due("3, for one who is on", x.may(0, 7, 1), 3);
        Check.due("3, FREE for whom it stands", x.may(0, 11, 4), 3);
        Check.due("3, for whom FREE stands, for FREE", x.may(0, 4, 11), 3);
        Check.due("3, gone out", x.may(0, 0, 6), 3);
        Check.due("4, who came in", x.may(0, 1, 6), 4);
        Check.due("4, for FREE", x.may(0, 6, 11), 4);
        Check.due("4, for whom FREE stands", x.may(0, 6, 4), 4);
        Check.due("5, not for one another", x.may(0, 6, 7), 5);
        Check.due("5, who went out for another one", x.may(0, 1, 0), 5);
        Check.due("5, back", x.may(0, 6, 0), 5);
        Check.due("5, two at first", x.may(0, 1, 7), 5);
    }

    /** "one of the LINE-UP that has not gone out in this SET goes out for one that was not on in this SET" */
    private static void outForOneNeverOn() {
        for (int out = 0; out < 6; out++) {
            for (int in = 6; in < 12; in++) {
                SixWhoTurn x = match(12, 2);
                Check.start(x, 0, 0);
                Check.due("change", x.change(0, out, in), out);
                Check.due("at", x.at(0, out), in);
                Check.due("CHANGES done", x.of(0, 2), 1);
                for (int other = 0; other < 6; other++) {
                    if (other != out) {
                        Check.due("one that was on", x.may(0, other, out), 6);
                        Check.due("one that is on", x.may(0, other, in), 4);
                    }
                }
            }
        }
    }

    /** "or that one goes out for the one for which it came (just that)" */
    private static void backToItsOwnPlaceAlone() {
        for (int mine = 0; mine < 6; mine++) {
            SixWhoTurn x = match(12, 2);
            Check.start(x, 0, 0);
            for (int k = 0; k < 6; k++) {
                Check.due("change", x.change(0, k, 11 - k), k);
            }
            for (int other = 0; other < 6; other++) {
                Check.due("back", x.may(0, 11 - mine, other), other == mine ? 0 : 6);
            }
            Check.rallies(x, "BA", 0);
            Check.due("back, where it is now", x.change(0, 11 - mine, mine), (mine + 5) % 6);
            Check.due("at", x.at(0, (mine + 5) % 6), mine);
        }
        SixWhoTurn x = match(12, 2);
        Check.start(x, 0, 0);
        x.change(0, 0, 6);
        for (int never = 7; never < 12; never++) {
            Check.due("who came in, for one never on", x.may(0, 6, never), 6);
        }
    }

    /** "none of both may be CHANGED again then" */
    private static void neverAgain() {
        SixWhoTurn x = match(12, 2);
        Check.start(x, 0, 0);
        Check.due("out", x.change(0, 2, 8), 2);
        Check.due("back", x.change(0, 8, 2), 2);
        for (int in = 6; in < 12; in++) {
            Check.due("who came back goes out", x.may(0, 2, in), 6);
            Check.due("who came back goes out", x.change(0, 2, in), -1);
        }
        for (int out = 0; out < 6; out++) {
            Check.due("who went back comes in", x.may(0, out, 8), 6);
        }
        Check.due("others may", x.may(0, 3, 9), 0);
        Check.due("CHANGES done", x.of(0, 2), 2);
        Check.due("of the other TEAM", x.may(1, 8, 2), 0);
    }

    private static void noneOfTheLineUpForAnother() {
        SixWhoTurn x = match(12, 2);
        Check.start(x, 0, 0);
        x.change(0, 0, 6);
        x.change(0, 1, 7);
        Check.due("a third one for who went out", x.may(0, 2, 0), 6);
        Check.due("crosswise", x.may(0, 6, 1), 6);
        Check.due("crosswise", x.may(0, 7, 0), 6);
        x.change(0, 6, 0);
        Check.due("crosswise still", x.may(0, 7, 6), 6);
        Check.due("its own", x.may(0, 7, 1), 0);
    }

    /** "At most CHANGES of a TEAM in a SET", for every CHANGES 0 .. 12. */
    private static void changesAreCounted() {
        for (int most = 0; most <= 12; most++) {
            SixWhoTurn x = match(most, 2);
            for (int set = 0; set < 2; set++) {
                Check.start(x, 0, set);
                for (int k = 0; k < 12; k++) {
                    // 0 .. 5 go out for 6 .. 11, then those for 0 .. 5, as far as they came in.
                    int in = (k + 6) % 12;
                    int gone = k - 6 >= most ? 3 : 5;
                    Check.due("may, " + k + " of " + most, x.may(0, k, in), k < most ? 0 : gone);
                    Check.due("change, " + k + " of " + most, x.change(0, k, in), k < most ? k % 6 : -1);
                    Check.due("CHANGES done", x.of(0, 2), Math.min(most, k + 1));
                }
                Check.due("of the other TEAM", x.of(1, 2), 0);
                Check.due("of the other TEAM", x.may(1, 6, 0), most > 0 ? 0 : 5);
                Check.rallies(x, set == 0 ? "AAAAA" : "BBBBB", 1);
                Check.due("done, behind the SET", x.of(0, 2), most);
            }
        }
    }

    /** "in this SET": whoever was changed in the last one, each PLAYER is as at first in the next one. */
    private static void everyPlayerAnewInANewSet() {
        for (int done = 0; done < 2; done++) {
            for (int k = 0; k < 6; k++) {
                SixWhoTurn x = match(12, 2);
                Check.start(x, 0, 0);
                for (int j = 0; j < 6; j++) {
                    x.change(0, j, j + 6);
                    if (done == 1) {
                        x.change(0, j + 6, j);
                    }
                }
                Check.rallies(x, "AAAAA", 1);
                x.lineUp(0, 6, 7, 8, 9, 10, 11);
                x.lineUp(1, 6, 7, 8, 9, 10, 11);
                Check.due("begin", x.begin(0), 1);
                for (int in = 0; in < 6; in++) {
                    Check.due("may", x.may(0, 6 + k, in), 0);
                    Check.due("may", x.may(0, 6 + in, k), 0);
                }
                Check.due("change", x.change(0, 6 + k, k), k);
                Check.due("back", x.change(0, k, 6 + k), k);
            }
        }
    }

    /** "Never of FREE, or of the one for whom FREE stands now." */
    private static void neverOfFree() {
        SixWhoTurn x = match(12, 2);
        x.libre(0, 11);
        Check.start(x, 0, 0);
        Check.due("on", x.free(0, 5), 5);
        for (int p = 0; p < 11; p++) {
            Check.due("FREE out", x.may(0, 11, p), 3);
            Check.due("FREE in", x.may(0, p, 11), p < 5 ? 4 : 3);
            if (p != 5) {
                Check.due("for whom it stands, out", x.may(0, 5, p), 3);
                Check.due("for whom it stands, in", x.may(0, p, 5), p < 5 ? 4 : 3);
            }
        }
        Check.due("its neighbour", x.change(0, 4, 6), 4);
        x.rally(0);
        Check.due("off", x.free(0, -1), 5);
        Check.due("FREE out, off", x.may(0, 11, 6), 3);
        Check.due("it was no CHANGE", x.of(0, 2), 1);
        Check.due("now it may", x.change(0, 5, 7), 5);
        x.rally(0);
        Check.due("for who came in", x.free(0, 6), 4);
        Check.due("who came in goes out", x.may(0, 6, 4), 3);
        Check.due("for whom it stands", x.of(0, 4), 6);
        x.rally(0);
        x.free(0, -1);
        Check.due("now it may", x.change(0, 6, 4), 4);
    }

    // ---- promise 9

    /** "A CHANGE: the PLACE." */
    private static void changeTellsThePlace() {
        for (int turns = 0; turns < 7; turns++) {
            for (int place = 0; place < 6; place++) {
                SixWhoTurn x = new SixWhoTurn();
                Check.start(x, 0, 0);
                Check.rallies(x, "BA".repeat(turns), 0);
                int out = (place + turns) % 6;
                Check.due("change", x.change(0, out, 10), place);
                Check.due("at", x.at(0, place), 10);
                Check.due("back", x.change(0, 10, out), place);
                Check.due("at", x.at(0, place), out);
                Check.due("again", x.change(0, out, 10), -1);
            }
        }
    }

    // ---- promise 10

    /** "FREE comes on for a PLAYER (at PLACE 4 or 5)": each PLACE, each TURN. */
    private static void freeAtFourAndFive() {
        for (int turns = 0; turns < 7; turns++) {
            for (int place = 0; place < 6; place++) {
                SixWhoTurn x = new SixWhoTurn();
                x.libre(0, 11);
                Check.start(x, 0, 0);
                Check.rallies(x, "BA".repeat(turns), 0);
                int player = (place + turns) % 6;
                boolean taken = place >= 4;
                Check.due("free at " + place, x.free(0, player), taken ? place : -1);
                Check.due("stands for", x.of(0, 4), taken ? player : -1);
                Check.due("at", x.at(0, place), taken ? 11 : player);
            }
        }
    }

    private static void freeForNobodyElse() {
        SixWhoTurn x = match(6, 2);
        x.libre(0, 11);
        x.libre(1, 0);
        x.libre(1, -1);
        Check.start(x, 0, 0);
        for (int p : new int[] {Integer.MIN_VALUE, -2, 6, 7, 10, 11, 12, 13, Integer.MAX_VALUE}) {
            Check.due("not on", x.free(0, p), -1);
        }
        Check.due("it is not on", x.free(0, -1), -1);
        for (int p = -1; p < 12; p++) {
            Check.due("no FREE", x.free(1, p), -1);
        }
        Check.due("a CHANGE", x.change(0, 4, 8), 4);
        Check.due("who went out", x.free(0, 4), -1);
        Check.due("who came in", x.free(0, 8), 4);
        x.rally(1);
        for (int p = 0; p < 12; p++) {
            Check.due("it is on already", x.free(0, p), -1);
        }
        Check.due("off", x.free(0, -1), 4);
    }

    /** "of a TEAM just once between two RALLIES of a SET (on or off; also ahead of its first one)" */
    private static void freeJustOnce() {
        for (int by = 0; by < 4; by++) {
            SixWhoTurn x = match(6, 2);
            x.libre(0, 11);
            x.libre(1, 0);
            Check.start(x, 0, 0);
            Check.due("ahead of the first RALLY", x.free(0, 5), 5);
            Check.due("off at once", x.free(0, -1), -1);
            Check.due("of the other TEAM", x.free(1, 11), 5);
            Check.due("off at once", x.free(1, -1), -1);
            x.pause(0);
            x.change(0, 0, 6);
            Check.due("neither PAUSE nor CHANGE is a RALLY", x.free(0, -1), -1);
            goOn(x, by);
            Check.due("off", x.free(0, -1), 5);
            Check.due("on at once", x.free(0, 5), -1);
            Check.due("on at once for the other", x.free(0, 4), -1);
            Check.due("off of the other TEAM", x.free(1, -1) >= 4, true);
            goOn(x, by);
            Check.due("on", x.free(0, x.at(0, 4)), 4);
            Check.due("on of the other TEAM", x.free(1, x.at(1, 5)), 5);
        }
    }

    private static void goOn(SixWhoTurn x, int by) {
        int server = x.count(2);
        switch (by) {
            case 0: Check.due("won by who serves", x.rally(server), 0); break;
            case 1: Check.due("won by 1", x.rally(1), 0); break;
            case 2: Check.due("sheet", Check.sheet(x, "B"), 1); break;
            default: Check.due("wrong", server == 0 ? x.wrong(0) : x.rally(1), 0); break;
        }
    }

    private static void aRefusedFreeIsNotCounted() {
        SixWhoTurn x = match(6, 2);
        x.libre(0, 11);
        Check.start(x, 0, 0);
        Check.due("not on", x.free(0, -1), -1);
        Check.due("at PLACE 3", x.free(0, 3), -1);
        Check.due("nobody", x.free(0, 12), -1);
        Check.due("refused sheet", Check.sheet(x, "a*4a-"), -1004);
        Check.due("the once is left", x.free(0, 4), 4);
        x.rally(0);
        Check.due("on already", x.free(0, 5), -1);
        Check.due("the once is left", x.free(0, -1), 4);
    }

    /** "As a TURN brings FREE to PLACE 3, the one for whom it stands comes back there at once (not counted so)" */
    private static void freeComesBackAtThree() {
        for (int place = 4; place <= 5; place++) {
            SixWhoTurn x = match(6, 2);
            x.libre(0, 11);
            Check.start(x, 1, 0);
            Check.due("on", x.free(0, place), place);
            Check.rallies(x, "A", 0);
            Check.due("one TURN", x.of(0, 4), place == 4 ? -1 : 5);
            Check.six(x, 0, 1, 2, 3, 4, place == 4 ? 5 : 11, 0);
            Check.rallies(x, "AB", 0);
            Check.due("no TURN", x.of(0, 4), place == 4 ? -1 : 5);
            Check.rallies(x, "A", 0);
            Check.six(x, 0, 2, 3, 4, 5, 0, 1);
            Check.due("two TURNS", x.of(0, 4), -1);
            Check.due("at once again", x.free(0, 1), 5);
            Check.due("and just once", x.free(0, -1), -1);
        }
    }

    /** "FREE stays for that one until then": RALLIES without a TURN, pauses, the other's TURNS, the end of a SET. */
    private static void freeStaysForThatOne() {
        SixWhoTurn x = match(6, 2);
        x.libre(0, 11);
        Check.start(x, 0, 0);
        Check.due("on", x.free(0, 4), 4);
        Check.rallies(x, "AAA", 0);
        x.pause(0);
        Check.rallies(x, "BBBB", 0);
        Check.due("stands for", x.of(0, 4), 4);
        Check.rallies(x, "B", 1);
        Check.due("behind the SET", x.of(0, 4), 4);
        Check.due("behind the SET", x.at(0, 4), 11);
        Check.due("another FREE is named", x.libre(0, 10), 11);
        Check.due("the SET stays as it is", x.at(0, 4), 11);
        Check.due("off behind the SET", x.free(0, -1), -1);
        Check.start(x, 0, 1);
        Check.due("a new SET", x.of(0, 4), -1);
        Check.due("a new SET", x.at(0, 4), 4);
        Check.due("the new FREE", x.free(0, 4), 4);
        Check.due("the new FREE", x.at(0, 4), 10);
        Check.due("the old one may come in", x.may(0, 0, 11), 0);
        Check.due("the new one may not", x.may(0, 0, 10), 4);
    }

    private static void freeOfNoTeam() {
        SixWhoTurn x = match(6, 2);
        x.libre(0, 11);
        x.libre(1, 0);
        Check.due("no SET is on", x.free(0, 4), -1);
        Check.start(x, 0, 0);
        for (int team : NO_TEAM) {
            Check.due("none such", x.free(team, 4), -1);
            Check.due("none such", x.free(team, 10), -1);
            Check.due("none such", x.free(team, -1), -1);
        }
        Check.due("of 0", x.free(0, 4), 4);
        Check.due("of 1", x.free(1, 10), 4);
    }

    // ---- promise 11

    /** "PAUSES: at most so many of a TEAM in a SET", for every PAUSES 0 .. 4. */
    private static void pausesAreCounted() {
        for (int most = 0; most <= 4; most++) {
            SixWhoTurn x = match(6, most);
            for (int set = 0; set < 2; set++) {
                Check.start(x, 0, set);
                for (int team = 1; team >= 0; team--) {
                    for (int k = 1; k <= 6; k++) {
                        Check.due("pause", x.pause(team), k <= most ? k : -1);
                        Check.due("had", x.of(team, 3), Math.min(k, most));
                    }
                    Check.due("had by the other", x.of(0, 3), team == 1 ? 0 : most);
                }
                Check.rallies(x, set == 0 ? "AAAAA" : "BBBBB", 1);
                Check.due("had, behind the SET", x.of(1, 3), most);
            }
        }
    }

    /** "Refused: no SET is on, they are gone, none such." */
    private static void pausesByState() {
        SixWhoTurn x = match(6, 4);
        Check.due("no SET was begun", x.pause(0), -1);
        Check.start(x, 0, 0);
        for (int team : NO_TEAM) {
            Check.due("none such", x.pause(team), -1);
        }
        Check.due("one", x.pause(0), 1);
        Check.rallies(x, "AAAAA", 1);
        Check.due("no SET is on", x.pause(0), -1);
        Check.due("had", x.of(0, 3), 1);
    }
}
