import java.io.IOException;
import java.nio.file.Files;
import java.nio.file.Path;
import java.util.regex.Matcher;
import java.util.regex.Pattern;

/** The document's example, call by call, in its order. */
public final class ExampleTest {
    private static final String EXAMPLE = """
        role('w', 'k', 1, false, false, false) = 0; role('v', 's', 1, false, false, false) = 1;
        role('v', 'd', 2, true, false, false) = 2; role('v', '-', 1, false, false, true) = 3;
        role('v', 's', 1, false, true, false) = 4; seems(4, 1) = 4; seat(0) = 0; seat(1) = 1; seat(2) = 2;
        seat(3) = 3; seat(4) = 4; dealt(1) = 1; lovers(3, 2) = false; heir(2, 1) = -1; mark(3, 0) = -1;
        begin() = 5; isNight() = true; number() = 0; act(0, 1) = false; act(1, 0) = false; act(2, 1) = false;
        act(4, 0) = false; worlds(1) = 48; dawn() = 1; told(4, 0) = v; seen(4, 0) = 0; didAct(2) = true;
        death(1) = k; isAlive(2) = true; roleOf(2) = 1; isSilenced(3) = false; sure(4, 0) = ?;
        possible(4, 0, 0) = 12; known() = 120; claim(4, 0, 'w') = 0; holds(3, 0) = ?; liars(2) = 0;
        vote(0, 3) = false; vote(2, 3) = false; votes(3) = 2; dusk() = 3; winner() = v; living('*') = 1;
        hasGhostVote(1) = true; changed(0, 1) = w; alive(0, 1) = 18; score(0) = 0; checksum() = 1193848646;
        livingShare() = 0.2; meanWorlds() = 33.6; isSound() = true.
        """;
    private static final int CALLS = 51;
    private static final Checks CHECKS = new Checks("ExampleTest");

    private ExampleTest() {
    }

    public static void main(String[] args) throws IOException {
        isTheDocuments(Files.readString(Path.of("../shared/DOC.md")));
        eachCall();
        behindIt();
        CHECKS.end();
    }

    private static void isTheDocuments(String document) {
        Matcher block = Pattern.compile("First example:\\s*```text\n(.*?)```", Pattern.DOTALL).matcher(document);
        CHECKS.is("the document has an example", block.find(), true);
        CHECKS.is("it is this one", EXAMPLE.strip(), block.group(1).strip().replaceAll("\n +", "\n"));
        CHECKS.is("there is no other one", block.find(), false);
    }

    private static void eachCall() {
        Script script = new Script();
        String text = EXAMPLE.strip();
        String[] lines = text.substring(0, text.length() - 1).split(";\\s+");
        CHECKS.is("the number of calls", lines.length, CALLS);
        for (String line : lines) {
            String[] sides = line.split(" = ");
            CHECKS.is(sides[0], script.answer(sides[0]), sides[1]);
        }
        CHECKS.is("each method is called", script.called(), Script.face());
    }

    /** All that the village of the example can be asked as it is over. */
    private static void behindIt() {
        NightfallVillage village = Villages.exampleOver();
        CHECKS.is("deaths", Villages.deaths(village, 5), "hklx-");
        CHECKS.is("deeds", Villages.done(village, 5), "11101");
        StringBuilder told = new StringBuilder();
        StringBuilder worlds = new StringBuilder();
        StringBuilder scores = new StringBuilder();
        for (int seat = 0; seat < 5; seat++) {
            told.append(village.told(seat, 0)).append(village.seen(seat, 0)).append(' ');
            worlds.append(village.worlds(seat)).append(' ');
            scores.append(village.score(seat));
        }
        CHECKS.is("what they were told", told.toString(), "--1 v0 --1 --1 v0 ");
        CHECKS.is("their worlds", worlds.toString(), "24 48 24 24 48 ");
        CHECKS.is("their scores", scores.toString(), "02223");
    }
}
