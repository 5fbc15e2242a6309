import java.io.IOException;
import java.lang.reflect.Field;
import java.lang.reflect.Method;
import java.lang.reflect.Modifier;
import java.nio.file.Files;
import java.nio.file.Path;
import java.util.ArrayList;
import java.util.List;

/** What README.md says of the use of the class holds: its example stands below, line by line, and answers as it says. */
public final class ReadmeTest {
    private static final Path README = Path.of("README.md");
    private static final Path THIS = Path.of("src/test/java/ReadmeTest.java");

    private ReadmeTest() {
    }

    public static void main(String[] args) throws IOException {
        example();
        exampleStandsHere();
        eachCallIsTold();
        Checks.close("ReadmeTest");
    }

    private static void example() {
        // from README.md
        SensorBond network = new SensorBond();
        network.setPrice(0, 10);                      // sensor 0 asks 10 for a reading
        int last = network.open(2, 0, 3);             // buyer 2 opens a window on it for three ticks: the last one is 2
        int reading = network.tell(0, 50);            // it tells 50, and buyer 2 uses it: 10 are held for the reading
        network.challenge(3, reading);                // buyer 3 stakes 4 against it
        network.sample(1, reading, 20);               // the neighbours of sensor 0 give their samples
        int state = network.sample(4, reading, 25);   // the last one has it judged: LIE, for 50 is far from 20
        int bond = network.bond(0);                   // 80 of its 100 were cut, so 20 are left
        int refunded = network.purse(2);              // 200, less the 20 still set aside, and half the cut
        int tick = network.advance(3);                // three ticks end, and the window is closed
        boolean refused = false;
        try {
            network.tell(12, 50);
        } catch (IndexOutOfBoundsException e) {       // there is no sensor 12
            refused = true;
        }
        // so far
        Checks.due("the last tick of the window", 2, last);
        Checks.due("the state", SensorBond.LIE, state);
        Checks.due("the bond", 20, bond);
        Checks.due("the purse of who used it", 200 - 20 + 40, refunded);
        Checks.due("the tick", 3, tick);
        Checks.holds("there is no sensor 12", refused);
    }

    private static void exampleStandsHere() throws IOException {
        List<String> told = between(Files.readAllLines(README), "```java", "```");
        List<String> run = between(Files.readAllLines(THIS), "// from README.md", "// so far");
        Checks.holds("README.md has an example", !told.isEmpty());
        Checks.due("the example of README.md", String.join("\n", told), String.join("\n", run));
    }

    private static List<String> between(List<String> lines, String first, String behind) {
        List<String> found = new ArrayList<>();
        boolean within = false;
        for (String line : lines) {
            String words = line.strip();
            if (within && words.equals(behind)) {
                return found;
            }
            if (within) {
                found.add(words);
            }
            within = within || words.equals(first);
        }
        return found;
    }

    private static void eachCallIsTold() throws IOException {
        String readme = Files.readString(README);
        for (Method method : SensorBond.class.getDeclaredMethods()) {
            if (Modifier.isPublic(method.getModifiers())) {
                Checks.holds("README.md tells of " + method.getName(), readme.contains("`" + method.getName() + "("));
            }
        }
        for (Field field : SensorBond.class.getDeclaredFields()) {
            if (Modifier.isPublic(field.getModifiers())) {
                Checks.holds("README.md tells of " + field.getName(), readme.contains("`" + field.getName() + "`"));
            }
        }
    }
}
