import java.io.IOException;
import java.lang.reflect.Field;
import java.lang.reflect.Method;
import java.lang.reflect.Modifier;
import java.nio.file.Files;
import java.nio.file.Path;
import java.util.TreeSet;

/** The face of the document, and what LANGUAGE.md forbids that can be seen in the source. */
public final class LanguageTest {
    public static void main(String[] args) throws IOException {
        face();
        words();
        sizes();
        Check.finish();
    }

    private static void face() {
        TreeSet<String> methods = new TreeSet<>();
        TreeSet<String> hidden = new TreeSet<>();
        for (Method m : AbcForms.class.getDeclaredMethods()) {
            boolean open = Modifier.isPublic(m.getModifiers());
            Check.due(m.getName() + " is public or private", open || Modifier.isPrivate(m.getModifiers()) ? 1 : 0, 1);
            (open ? methods : hidden).add(open ? signature(m) : m.getName());
        }
        String wanted = "[end(int):int, feed(int,int,int,int,int):int, full(int,int):int, head(int):int,"
                + " length(int,int):long, measures(int):int, place():int, played(int):int, read():int,"
                + " start(int):long, thing(int,int):int, time(int):long, title(int,int):int, written(int,int):int]";
        Check.due("the methods " + methods, methods.toString().equals(wanted) ? 1 : 0, 1);
        for (Class<?> inside : AbcForms.class.getDeclaredClasses()) {
            Check.due(inside + " is static", Modifier.isStatic(inside.getModifiers()) ? 1 : 0, 1);
            for (Method m : inside.getDeclaredMethods()) {
                hidden.add(m.getName());
            }
            fields(inside, false);
        }
        for (Method m : AbcForms.class.getDeclaredMethods()) {
            if (Modifier.isPublic(m.getModifiers())) {
                Check.due("no other method is called " + m.getName(), hidden.contains(m.getName()) ? 1 : 0, 0);
            }
        }
        fields(AbcForms.class, true);
        Check.due("BAD", AbcForms.BAD, -1);
        Check.due("NONE", AbcForms.NONE, -2);
        Check.due("FULL", AbcForms.FULL, -3);
        Check.due("the class is final", Modifier.isFinal(AbcForms.class.getModifiers()) ? 1 : 0, 1);
        Check.due("one constructor", AbcForms.class.getDeclaredConstructors().length, 1);
    }

    private static String signature(Method m) {
        StringBuilder b = new StringBuilder(m.getName()).append('(');
        for (Class<?> type : m.getParameterTypes()) {
            b.append(b.charAt(b.length() - 1) == '(' ? "" : ",").append(type);
        }
        return b.append("):").append(m.getReturnType()).toString();
    }

    private static void fields(Class<?> type, boolean outer) {
        int many = 0;
        for (Field f : type.getDeclaredFields()) {
            boolean constant = Modifier.isStatic(f.getModifiers());
            many += constant ? 0 : 1;
            if (constant) {
                Check.due(f.getName() + " is final", Modifier.isFinal(f.getModifiers()) ? 1 : 0, 1);
            }
            boolean told = f.getName().equals("BAD") || f.getName().equals("NONE") || f.getName().equals("FULL");
            if (outer && !told) {
                Check.due(f.getName() + " is private", Modifier.isPrivate(f.getModifiers()) ? 1 : 0, 1);
            }
        }
        Check.due("fields of " + type, many <= 20 ? 0 : many, 0);
    }

    private static void words() throws IOException {
        String source = Files.readString(Path.of("src/main/java/AbcForms.java"));
        String code = source.replaceAll("(?s)/\\*.*?\\*/", "").replaceAll("//.*", "");
        String[] forbidden = {"throw", "throws", "try", "catch", "synchronized", "assert", "package", "->", "Exact",
            "System.nanoTime", "Object", "hashCode", "instanceof", "protected", "import"};
        for (String word : forbidden) {
            boolean there = word.equals("->") ? code.contains(word)
                    : code.matches("(?s).*\\b" + word.replace(".", "\\.") + "\\b.*");
            Check.due("the word " + word, there ? 1 : 0, 0);
        }
        Check.due("a method reference", code.replaceAll("\"[^\"]*\"", "").contains("::") ? 1 : 0, 0);
    }

    private static void sizes() throws IOException {
        int first = 0;
        int line = 0;
        for (String text : Files.readAllLines(Path.of("src/main/java/AbcForms.java"))) {
            line++;
            boolean begins = text.matches("(    |        )(public |private |static )*[\\w\\[\\]]+ \\w+\\(.*\\) \\{");
            if (begins) {
                first = line;
            } else if (first > 0 && text.matches("(    |        )\\}")) {
                Check.due("the method at line " + first + " is short", line - first < 60 ? 1 : 0, 1);
                first = 0;
            }
        }
    }
}
