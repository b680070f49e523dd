import java.io.File;
import java.io.IOException;
import java.nio.file.Files;
import java.nio.file.Path;
import java.util.ArrayList;
import java.util.List;
import java.util.TreeSet;

/** What README.md tells: its example, word by word, the calls that it names, and its commands. */
public final class ReadmeTest {
    private static final Path README = Path.of("README.md");
    private static final Path THIS = Path.of("src/test/java/ReadmeTest.java");

    private ReadmeTest() {
    }

    public static void main(String[] args) throws IOException, InterruptedException {
        example();
        exampleIsAsWritten();
        allCallsAreNamed();
        commands();
        Due.end();
    }

    /** Each line is one of the example, or tells what the comment there says. */
    private static void example() {
        Panehouse house = new Panehouse();
        int window = house.window();
        Due.is("panes", house.panes(window), 1);
        int client = house.attach(40, 12);
        Due.is("looksAt", house.looksAt(client), window);
        Due.is("columns", house.size(window, true), 40);
        Due.is("rows", house.size(window, false), 11);
        int pane = house.active(window);
        house.feedMore(pane, 2, 'h', 'i', 0, 0, 0, 0, 0, 0);
        int changed = house.redraw(client);
        Due.is("redraw", changed, 42);
        char sign = house.shown(client, 0, 0);
        Due.is("shown", sign, 'h');
        int other = house.split(pane, true, 5);
        Due.is("active", house.active(window), other);
        Due.is("beside it", house.place(other, 'c'), house.place(pane, 'w') + 1);
        char done = house.key(client, 'x');
        Due.is("key", done, 't');
        int typed = house.typed(other);
        Due.is("typed", typed, 'x');
        int copied = house.copy(pane, 0, 0, 0, 1);
        Due.is("copy", copied, 2);
        Due.is("copied", house.copied(0), 'h');
        Due.is("copied", house.copied(1), 'i');
        int pasted = house.paste(other);
        Due.is("paste", pasted, 2);
        Due.is("pasted", house.typed(other), 'h');
    }

    /** The lines of the first block of a kind. */
    private static List<String> block(String kind) throws IOException {
        List<String> lines = Files.readAllLines(README);
        List<String> found = new ArrayList<>();
        for (int i = lines.indexOf("```" + kind) + 1; i > 0 && !lines.get(i).equals("```"); i++) {
            found.add(lines.get(i));
        }
        return found;
    }

    private static void exampleIsAsWritten() throws IOException {
        List<String> here = new ArrayList<>();
        for (String line : Files.readAllLines(THIS)) {
            here.add(line.trim());
        }
        List<String> example = block("java");
        Due.is("there is an example", example.size() > 10, true);
        int at = -1;
        for (String line : example) {
            int next = here.indexOf(line.replaceAll("//.*", "").trim());
            Due.is("in order here: " + line, next > at, true);
            at = next;
        }
    }

    private static void allCallsAreNamed() throws IOException {
        String text = Files.readString(README);
        TreeSet<String> missing = new TreeSet<>();
        for (java.lang.reflect.Method method : Panehouse.class.getDeclaredMethods()) {
            boolean isPublic = java.lang.reflect.Modifier.isPublic(method.getModifiers());
            if (isPublic && !text.contains("`" + method.getName() + "`")) {
                missing.add(method.getName());
            }
        }
        Due.is("calls that are not named", missing.toString(), "[]");
    }

    /** The commands that run one test, with a directory of their own in place of the one that they name. */
    private static void commands() throws IOException, InterruptedException {
        List<String> commands = block("sh");
        Due.is("there are commands", commands.size(), 2);
        Path out = Files.createTempDirectory("readme");
        for (String command : commands) {
            String here = command.replace(" out ", " " + out + " ");
            Due.is("names a directory: " + command, here.equals(command), false);
            Process process = new ProcessBuilder("sh", "-c", here).redirectErrorStream(true)
                    .redirectOutput(ProcessBuilder.Redirect.DISCARD).start();
            Due.is("exit code of " + command, process.waitFor(), 0);
        }
        File[] made = out.toFile().listFiles();
        for (File file : made == null ? new File[0] : made) {
            file.delete();
        }
        out.toFile().delete();
    }
}
