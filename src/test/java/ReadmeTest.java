import java.io.IOException;
import java.nio.file.Files;
import java.nio.file.Path;
import java.util.ArrayList;
import java.util.List;
import java.util.regex.Matcher;
import java.util.regex.Pattern;

/** The calls that README.md shows, in its order, answer what it says of them. */
public final class ReadmeTest {
    private static final Check c = new Check();
    private static final Pattern SHOWN = Pattern.compile("(?m)^wire\\.(.+\\)); +// (-?\\d+): ");
    private static final List<String> shown = new ArrayList<>();
    private static int next = 0;

    public static void main(String[] args) throws IOException {
        Matcher m = SHOWN.matcher(Files.readString(Path.of("README.md")));
        while (m.find()) {
            shown.add(m.group(1) + " // " + m.group(2));
        }
        RankWire wire = new RankWire();
        nodesAndWords(wire);
        framesAndTheTape(wire);
        theRun(wire);
        theDesk(wire);
        rowsAndRefusals(wire);
        c.due("calls that README.md shows", shown.size(), next);
        c.end();
    }

    /** The next call that README.md shows is this one, with this answer. */
    private static void row(String call, long got) {
        String said = next < shown.size() ? shown.get(next) : "nothing";
        next++;
        c.due("README.md says " + said + " where the class has " + call + " // " + got, said.equals(call + " // " + got) ? 1 : 0, 1);
    }

    private static void nodesAndWords(RankWire wire) {
        row("node()", wire.node());
        row("node()", wire.node());
        row("word(0, 100, 1, 500, 0)", wire.word(0, 100, 1, 500, 0));
        row("word(1, 7, 32, 500, 0)", wire.word(1, 7, 32, 500, 0));
        row("word(1, 2148, 10, 900, 10)", wire.word(1, 2148, 10, 900, 10));
        row("word(0, 60, 20, 300, 0)", wire.word(0, 60, 20, 300, 0));
        row("value(0, 0x5A)", wire.value(0, 0x5A));
        row("late(2, 40)", wire.late(2, 40));
        row("due(0, 400)", wire.due(0, 400));
    }

    private static void framesAndTheTape(RankWire wire) {
        row("size(0)", wire.size(0));
        row("ahead(0, 1)", wire.ahead(0, 1));
        row("lay(0)", wire.lay(0));
        row("read(0)", wire.read(0));
        row("told(1)", wire.told(1));
        row("bytes()", wire.bytes());
        row("bend(20)", wire.bend(20));
        row("read(0)", wire.read(0));
        row("told(0)", wire.told(0));
    }

    private static void theRun(RankWire wire) {
        row("come(3)", wire.come(3));
        row("disturb(30)", wire.disturb(30));
        row("run(1000)", wire.run(1000));
        row("count(2)", wire.count(2));
        row("of(0, 11)", wire.of(0, 11));
        row("log(0, 0)", wire.log(0, 0));
    }

    private static void theDesk(RankWire wire) {
        row("worst(3)", wire.worst(3));
        row("due(3, 200)", wire.due(3, 200));
        row("misses()", wire.misses());
        row("order()", wire.order());
        row("place(0)", wire.place(0));
        row("give()", wire.give());
        row("misses()", wire.misses());
    }

    private static void rowsAndRefusals(RankWire wire) {
        row("put(0)", wire.put(0));
        row("row(0)", wire.row(0));
        row("copy(0, 0, 2)", wire.copy(0, 0, 2));
        row("status(RankWire.COPY)", wire.status(RankWire.COPY));
    }
}
