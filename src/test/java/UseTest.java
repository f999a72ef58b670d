import java.io.IOException;
import java.nio.file.Files;
import java.nio.file.Path;
import java.util.ArrayList;
import java.util.List;

/** The run of calls that README.md shows: that it answers what is told there, line by line. */
public final class UseTest {
    private final List<String> shown = new ArrayList<>();
    private int next = 0;

    private UseTest() throws IOException {
        for (String line : Files.readAllLines(Path.of("README.md"))) {
            if (line.startsWith("match.")) {
                shown.add(line);
            }
        }
    }

    public static void main(String[] args) throws IOException {
        UseTest test = new UseTest();
        SixWhoTurn match = new SixWhoTurn();
        test.lineUps(match);
        test.rallies(match);
        test.feetAndSheets(match);
        test.chances(match);
        Check.due("all lines were asked", test.next, test.shown.size());
        Check.finish();
    }

    /** The next line of README.md is this call, and its comment begins with the answer. */
    private void line(String call, Object answer) {
        String line = next < shown.size() ? shown.get(next) : "";
        next++;
        int comment = line.indexOf("// ");
        String told = comment < 0 ? "" : line.substring(comment + 3).split(":")[0];
        Check.due(call + " is shown as: " + line, line.startsWith("match." + call + ";"), true);
        Check.due(call + " answered " + answer + ", shown is " + told, told.equals(String.valueOf(answer)), true);
    }

    private void lineUps(SixWhoTurn match) {
        line("set(0, 15)", match.set(0, 15));
        line("skill(0, 3, 0, 90)", match.skill(0, 3, 0, 90));
        line("skill(1, 2, 1, 80)", match.skill(1, 2, 1, 80));
        line("libre(1, 0)", match.libre(1, 0));
        line("lineUp(0, 0, 1, 2, 3, 4, 5)", match.lineUp(0, 0, 1, 2, 3, 4, 5));
        line("lineUp(1, 6, 7, 8, 9, 10, 11)", match.lineUp(1, 6, 7, 8, 9, 10, 11));
        line("turn(0, 0)", match.turn(0, 0));
        line("row(0)", match.row(0));
        line("begin(0)", match.begin(0));
    }

    private void rallies(SixWhoTurn match) {
        line("rally(1)", match.rally(1));
        line("at(1, 0)", match.at(1, 0));
        line("free(1, 6)", match.free(1, 6));
        line("change(0, 4, 8)", match.change(0, 4, 8));
        line("may(0, 8, 9)", match.may(0, 8, 9));
        line("rally(1)", match.rally(1));
        line("of(1, 5)", match.of(1, 5));
        line("wrong(1)", match.wrong(1));
        line("of(1, 0)", match.of(1, 0));
    }

    private void feetAndSheets(SixWhoTurn match) {
        line("feet(0, 3, 600, 200)", match.feet(0, 3, 600, 200));
        line("overlap(0)", match.overlap(0));
        line("sign(0x41426221)", match.sign(0x41426221));
        line("sheet()", match.sheet());
        line("sign('A' << 24 | 'a' << 16 | '1' << 8 | '9')", match.sign('A' << 24 | 'a' << 16 | '1' << 8 | '9'));
        line("sheet()", match.sheet());
    }

    private void chances(SixWhoTurn match) {
        line("odds(0, 0, 1)", match.odds(0, 0, 1));
        line("chance()", match.chance());
        line("weight()", match.weight());
        line("advice(1)", match.advice(1));
        line("row(0)", match.row(0));
    }
}
