import java.io.IOException;
import java.lang.reflect.Method;
import java.lang.reflect.Modifier;
import java.nio.file.Files;
import java.nio.file.Path;
import java.util.ArrayList;
import java.util.List;

/** What README.md tells of the use of the class holds. Run from the project's folder. */
public final class ReadmeTest {
    private static final Path README = Path.of("README.md");

    private static final List<String> example = new ArrayList<>();
    private static int at = 0;

    public static void main(String[] args) throws IOException {
        String readme = Files.readString(README);
        readExample(readme);
        followExample();
        Due.is("lines of the example", at, example.size());
        for (Method method : TypecheckStation.class.getDeclaredMethods()) {
            if (Modifier.isPublic(method.getModifiers())) {
                Due.is("in the table: " + method.getName(),
                        readme.contains("| `" + method.getName() + "("), true);
            }
        }
        Due.end();
    }

    private static void readExample(String readme) {
        String opening = "```java\n";
        int start = readme.indexOf(opening) + opening.length();
        for (String line : readme.substring(start, readme.indexOf("```", start)).split("\n")) {
            if (!line.isEmpty()) {
                example.add(line);
            }
        }
    }

    private static void followExample() {
        told("TypecheckStation station = new TypecheckStation();", "");
        TypecheckStation station = new TypecheckStation();
        int above = station.function();
        told("int above = station.function();", above);
        told("station.step(above, 24);", station.step(above, 24));
        told("station.step(above, 22);", station.step(above, 22));
        told("station.adopt(above);", station.adopt(above));
        told("station.type(above, true);", station.type(above, true));
        int outer = station.function();
        told("int outer = station.function();", outer);
        told("station.step(outer, 40 + above);", station.step(outer, 40 + above));
        told("station.step(outer, 23);", station.step(outer, 23));
        told("station.run(outer, 0, 7);", station.run(outer, 0, 7));
        told("station.latest(6);", station.latest(6));
        told("station.latest(2);", station.latest(2));
        told("station.run(outer, 1, 4);", station.run(outer, 1, 4));
        told("station.latest(1);", station.latest(1));
        told("station.budget(0);", station.budget(0));
        told("station.run(outer, 1, 4);", station.run(outer, 1, 4));
        told("station.latest(1);", station.latest(1));
        told("station.many(8);", station.many(8));
        told("station.adopt(outer);", station.adopt(outer));
        told("station.gain(outer);", station.gain(outer));
        told("station.migrate(10);", station.migrate(10));
        told("station.wouldBlame(outer, 1, 4);", station.wouldBlame(outer, 1, 4));
    }

    /** The next line of the example is this call, and the note behind it begins with this answer. */
    private static void told(String call, Object answer) {
        String line = at < example.size() ? example.get(at) : "";
        at++;
        String[] parts = line.split("\\s*// ", 2);
        Due.is("line " + at + " of the example is " + call, parts[0].equals(call), true);
        String note = parts.length < 2 ? "" : parts[1].split(":")[0];
        Due.is("line " + at + " answers " + answer + ", told is " + note, note.equals(String.valueOf(answer)), true);
    }
}
