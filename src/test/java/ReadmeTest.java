import java.io.IOException;
import java.lang.reflect.Method;
import java.lang.reflect.Modifier;
import java.net.URL;
import java.net.URLClassLoader;
import java.nio.file.DirectoryStream;
import java.nio.file.Files;
import java.nio.file.Path;
import java.util.ArrayList;
import java.util.List;
import java.util.TreeSet;
import java.util.regex.Matcher;
import java.util.regex.Pattern;
import javax.tools.JavaCompiler;
import javax.tools.ToolProvider;

/**
 * What README.md says of the use of the class: its table has every call of the face as it is, and its
 * examples, made into one program, compile and answer as told behind each call. Run in the project's folder.
 */
public final class ReadmeTest {
    private static final String FIRST = "SlipBench x = new SlipBench();";
    private static final Pattern EXAMPLE = Pattern.compile(
        "(?:(\\w+) (\\w+) = )?(x\\.(\\w+)\\([^;]*\\)); +// (-?\\d+|NONE|true|false|throws \\w+)(?:: .*)?");
    private static final Pattern ROW = Pattern.compile("\\| `(\\w+ \\w+\\(.*?\\))` \\|.*");

    private final List<String> calls = new ArrayList<>();
    private final List<String> told = new ArrayList<>();
    private final StringBuilder program = new StringBuilder();

    public static void main(String[] args) throws Exception {
        List<String> page = Files.readAllLines(Path.of("README.md"));
        ReadmeTest test = new ReadmeTest();
        test.readExamples(page);
        test.compareAnswers(test.runProgram());
        tableIsTheFace(page);
        everyTestIsNamed(page);
        Check.end();
    }

    private void readExamples(List<String> page) {
        TreeSet<String> used = new TreeSet<>();
        boolean inside = false;
        int programs = 0;
        for (String row : page) {
            if (row.startsWith("```")) {
                inside = row.equals("```java");
            } else if (inside && row.equals(FIRST)) {
                programs++;
                program.append(row).append('\n');
            } else if (inside) {
                Matcher m = EXAMPLE.matcher(row);
                Check.due("README.md: a call with its answer: " + row, true, m.matches());
                if (m.matches()) {
                    used.add(m.group(4));
                    addExample(m);
                }
            }
        }
        Check.due("README.md: programs", 1, programs);
        Check.due("README.md: examples use " + used, true, used.equals(namesOfFace()));
    }

    private void addExample(Matcher m) {
        String answer = m.group(5);
        calls.add(m.group(3));
        told.add(answer.equals("NONE") ? String.valueOf(SlipBench.NONE) : answer);
        String value = m.group(3);
        if (m.group(1) != null) {
            program.append(m.group(1)).append(' ').append(m.group(2)).append(" = ").append(value).append(";\n");
            value = m.group(2);
        }
        String keep = "got.add(String.valueOf(" + value + "));";
        program.append("try { ").append(keep).append(" } catch (RuntimeException e) { ");
        program.append("got.add(\"throws \" + e.getClass().getSimpleName()); }\n");
    }

    private List<String> runProgram() throws Exception {
        Path folder = Files.createTempDirectory("readme");
        try {
            Path source = folder.resolve("ReadmeProgram.java");
            Files.writeString(source, "public final class ReadmeProgram {\n"
                + "public static void run(java.util.List<String> got) {\n" + program + "}\n}\n");
            JavaCompiler compiler = ToolProvider.getSystemJavaCompiler();
            String path = System.getProperty("java.class.path");
            int code = compiler.run(null, null, null, "-cp", path, "-d", folder.toString(), source.toString());
            Check.due("README.md: compiling its examples", 0, code);
            List<String> got = new ArrayList<>();
            if (code == 0) {
                runIn(folder, got);
            }
            return got;
        } finally {
            remove(folder);
        }
    }

    private static void runIn(Path folder, List<String> got) throws Exception {
        URL[] where = {folder.toUri().toURL()};
        try (URLClassLoader loader = new URLClassLoader(where)) {
            loader.loadClass("ReadmeProgram").getMethod("run", List.class).invoke(null, got);
        }
    }

    private static void remove(Path folder) throws IOException {
        try (DirectoryStream<Path> files = Files.newDirectoryStream(folder)) {
            for (Path file : files) {
                Files.delete(file);
            }
        }
        Files.delete(folder);
    }

    private void compareAnswers(List<String> got) {
        Check.due("README.md: answers", told.size(), got.size());
        for (int k = 0; k < Math.min(told.size(), got.size()); k++) {
            String what = "README.md: " + calls.get(k) + " is told " + told.get(k) + " and answers " + got.get(k);
            Check.due(what, true, told.get(k).equals(got.get(k)));
        }
    }

    private static TreeSet<String> namesOfFace() {
        TreeSet<String> names = new TreeSet<>();
        for (Method m : SlipBench.class.getDeclaredMethods()) {
            if (Modifier.isPublic(m.getModifiers())) {
                names.add(m.getName());
            }
        }
        return names;
    }

    private static void tableIsTheFace(List<String> page) {
        TreeSet<String> rows = new TreeSet<>();
        for (String row : page) {
            Matcher m = ROW.matcher(row);
            if (m.matches()) {
                rows.add(m.group(1).replaceAll("(int|boolean) \\w+(?=[,)])", "$1"));
            }
        }
        TreeSet<String> face = new TreeSet<>();
        for (Method m : SlipBench.class.getDeclaredMethods()) {
            if (Modifier.isPublic(m.getModifiers())) {
                face.add(told(m));
            }
        }
        Check.due("README.md: its calls " + rows + " are the face's " + face, true, rows.equals(face));
    }

    private static String told(Method m) {
        List<String> types = new ArrayList<>();
        for (Class<?> type : m.getParameterTypes()) {
            types.add(type.getName());
        }
        return m.getReturnType().getName() + " " + m.getName() + "(" + String.join(", ", types) + ")";
    }

    private static void everyTestIsNamed(List<String> page) throws IOException {
        try (DirectoryStream<Path> tests = Files.newDirectoryStream(Path.of("src/test/java"), "*Test.java")) {
            for (Path test : tests) {
                String name = test.getFileName().toString().replace(".java", "");
                boolean named = page.stream().anyMatch(row -> row.startsWith("| `" + name + "` |"));
                Check.due("README.md: names " + name, true, named);
            }
        }
    }
}
