import java.io.IOException;
import java.lang.reflect.Method;
import java.lang.reflect.Modifier;
import java.nio.file.Files;
import java.nio.file.Path;
import java.util.ArrayList;
import java.util.List;

/** README.md: its example answers what its comments say, and its table has every call of the face. */
public final class ReadmeTest {
    private static final String ANSWER = " // ";

    private static List<String> lines;
    private static final List<String> notRun = new ArrayList<>();

    public static void main(String[] args) throws IOException {
        lines = Files.readAllLines(Path.of("README.md"));
        for (String line : lines) {
            if (line.startsWith("bus.")) {
                notRun.add(line);
            }
        }
        runExample();
        Check.due("lines of the example that were not run: " + notRun, notRun.size(), 0);
        checkTable();
        Check.finish();
    }

    private static void runExample() {
        LampBus bus = new LampBus();
        shown("bus.gear();", bus.gear());
        shown("bus.give(0, 0x123456);", bus.give(0, 0x123456));
        shown("bus.commission(5);", bus.commission(5));
        shown("bus.send(2 * 5, 100);", bus.send(2 * 5, 100));
        shown("bus.send(2 * 5 + 1, 0xA0);", bus.send(2 * 5 + 1, 0xA0));
        shown("bus.send(0xA3, 4);", bus.send(0xA3, 4));
        shown("bus.send(0xFF, 0x2E);", bus.send(0xFF, 0x2E));
        shown("bus.send(0xFF, 0x2E);", bus.send(0xFF, 0x2E));
        shown("bus.send(0xFE, 200);", bus.send(0xFE, 200));
        shown("bus.tick(10);", bus.tick(10));
        shown("bus.told(0, 0);", bus.told(0, 0));
        shown("bus.told(0, 14);", bus.told(0, 14));
    }

    /** The next line of the example must be this call, and its comment must begin with this answer. */
    private static void shown(String call, Object answer) {
        String line = notRun.isEmpty() ? "" : notRun.remove(0);
        int comment = line.indexOf(ANSWER);
        boolean same = comment >= 0 && line.substring(0, comment).strip().equals(call);
        Check.due("README.md has " + call + " where it has '" + line + "'", same, true);
        String told = answer.equals(LampBus.NONE) ? "NONE" : answer.toString();
        boolean due = same && line.substring(comment + ANSWER.length()).startsWith(told + ":");
        Check.due("README.md says " + told + " in '" + line + "'", due, true);
    }

    private static void checkTable() {
        for (Method method : LampBus.class.getDeclaredMethods()) {
            if (Modifier.isPublic(method.getModifiers())) {
                String row = "| `" + method.getName() + "(";
                boolean found = lines.stream().anyMatch(line -> line.startsWith(row));
                Check.due("README.md has a row for " + method.getName(), found, true);
            }
        }
    }
}
