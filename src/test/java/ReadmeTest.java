import java.io.IOException;
import java.lang.reflect.Method;
import java.lang.reflect.Modifier;
import java.nio.file.Files;
import java.nio.file.Path;

/** README.md: its example is the code below, line by line, and answers what is said there. */
public final class ReadmeTest {
    private static final Path README = Path.of("README.md");
    private static final Path OWN_SOURCE = Path.of("src/test/java/ReadmeTest.java");

    public static void main(String[] args) throws IOException {
        example();
        exampleIsThisCode();
        eachCallIsToldOf();
        Check.finish();
    }

    private static void example() {
        AbcForms x = new AbcForms(1);
        int things = readText(x, "X:1\nT:An air\nM:2/4\nL:1/8\nK:D\n|: f2 =f/^f- f :|\n");
        int pitch = x.thing(2, 3);
        long ticks = x.time(2);
        int measures = x.played(-1);
        int bytes = x.written(2, -1);
        Check.spelled(x, 2, "=f/");
        int fault = readText(x, "X:1\nT:An air\nK:D\nf2 ?");
        int place = x.place();
        Check.due("things", things, 6);
        Check.due("pitch", pitch, 77);
        Check.due("ticks", ticks, 80640);
        Check.due("measures", measures, 2);
        Check.due("bytes", bytes, 3);
        Check.due("fault", fault, -11);
        Check.due("place", place, 20);
    }

    static int readText(AbcForms x, String text) {
        for (int i = 0; i < text.length(); i += 20) {
            int[] five = new int[5];
            for (int k = 0; k < 20; k++) {
                int letter = i + k < text.length() ? text.charAt(i + k) : ' ';
                five[k / 4] = five[k / 4] << 8 | letter & 255;
            }
            x.feed(five[0], five[1], five[2], five[3], five[4]);
        }
        if (text.length() % 20 > 0) {
            x.end(text.length() % 20);
        }
        return x.read();
    }

    /** Else the page could go on telling an example that nobody runs. */
    private static void exampleIsThisCode() throws IOException {
        String code = Files.readString(OWN_SOURCE);
        boolean inside = false;
        int lines = 0;
        for (String line : Files.readAllLines(README)) {
            if (line.startsWith("```")) {
                inside = line.equals("```java");
            } else if (inside) {
                lines++;
                Check.due("ReadmeTest.java has: " + line, code.contains(line.strip() + "\n") ? 1 : 0, 1);
            }
        }
        Check.due("README.md has an example", lines > 20 ? 1 : 0, 1);
    }

    private static void eachCallIsToldOf() throws IOException {
        String page = Files.readString(README);
        for (Method m : AbcForms.class.getDeclaredMethods()) {
            if (Modifier.isPublic(m.getModifiers())) {
                Check.due("README.md tells of " + m.getName(), page.contains("\n| `" + m.getName() + "(") ? 1 : 0, 1);
            }
        }
    }
}
