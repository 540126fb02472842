import java.io.IOException;
import java.nio.file.Files;
import java.nio.file.Path;
import java.util.List;

/** README.md's example of use: what its calls answer, and that the page has these very calls. */
public final class ReadmeTest {
    private static final Check CHECK = new Check();
    private static final List<String> EXAMPLE = List.of(
            "MoverHall hall = new MoverHall();",
            "int room = hall.sector(0, 100, 10, 0, 7);",
            "int door = hall.sector(0, 4, 15, 1, 7);",
            "hall.join(room, door);",
            "hall.begin(door, 0);",
            "hall.ticks(12);",
            "hall.of(door, 1);",
            "hall.open(room, door);",
            "hall.reset();",
            "hall.of(door, 1);");

    public static void main(String[] args) throws IOException {
        answers();
        sameLines();
        CHECK.done();
    }

    private static void answers() {
        MoverHall hall = new MoverHall();
        int room = hall.sector(0, 100, 10, 0, 7);
        CHECK.is("room", room, 0);
        int door = hall.sector(0, 4, 15, 1, 7);
        CHECK.is("door", door, 1);
        CHECK.is("join", hall.join(room, door), true);
        CHECK.is("begin", hall.begin(door, 0), true);
        CHECK.is("ticks", hall.ticks(12), 12);
        CHECK.is("ceiling", hall.of(door, 1), 96);
        CHECK.is("open", hall.open(room, door), true);
        hall.reset();
        CHECK.is("ceiling again", hall.of(door, 1), 4);
    }

    private static void sameLines() throws IOException {
        String text = Files.readString(Path.of("README.md"));
        int from = text.indexOf("```java\n");
        int to = text.indexOf("\n```", from + 1);
        CHECK.is("README.md has an example", from >= 0 && to > from, true);
        if (from < 0 || to <= from) {
            return;
        }
        StringBuilder told = new StringBuilder();
        for (String line : text.substring(from + 8, to).split("\n")) {
            told.append(line.replaceAll("//.*", "").strip()).append('\n');
        }
        CHECK.is("README.md's example", told.toString().strip(), String.join("\n", EXAMPLE));
    }
}
