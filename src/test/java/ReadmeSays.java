import java.io.IOException;
import java.net.URL;
import java.net.URLClassLoader;
import java.nio.file.Files;
import java.nio.file.Path;
import java.util.ArrayList;
import java.util.List;
import java.util.regex.Matcher;
import java.util.regex.Pattern;
import javax.tools.ToolProvider;

/** Whether README.md tells every call with its refusals, as the document does, and whether its examples answer as it says. */
public final class ReadmeSays {
    private static final Pattern FACE = Pattern.compile("public (?:int|long) (\\w+)\\(([^)]*)\\);");
    private static final Pattern REFUSAL = Pattern.compile("\\b(?:NONE|BAD|STATE|FULL|NOTHING|CAST|PLACE|SIZE|NO)\\b|-10001");
    private static final Pattern EXAMPLE = Pattern.compile("```java\n(.*?)```", Pattern.DOTALL);
    /** A call whose answer is told behind it; what it is kept in, if it is. */
    private static final Pattern ANSWERED = Pattern.compile("(?:int (\\w+) = )?(gate\\..*);\\s*// (-?\\d+)[:, ].*");
    private static int wrong = 0;

    private static void want(boolean holds, String what) {
        if (!holds) {
            wrong++;
            System.out.println("README.md: " + what);
        }
    }

    private static List<String> refusals(String words) {
        List<String> all = new ArrayList<>();
        Matcher matcher = REFUSAL.matcher(words);
        while (matcher.find()) {
            all.add(matcher.group());
        }
        return all;
    }

    /** The columns of the row of a call; none, if it has no row. */
    private static String[] rowOf(String readme, String call) {
        for (String line : readme.split("\n")) {
            if (line.startsWith("| `" + call + "` | ")) {
                return line.split(" *\\| *", -1);
            }
        }
        return new String[0];
    }

    private static String promiseOf(String document, String name) {
        for (String part : document.split("\n## ")) {
            if (part.matches("(?s)Promise \\d+: " + name + "\n.*")) {
                return part.substring(part.indexOf("`: "));
            }
        }
        return "";
    }

    private static void calls(String readme, String document) {
        Matcher matcher = FACE.matcher(document);
        int calls = 0;
        while (matcher.find()) {
            if (matcher.group(1).equals("LaughingGate")) {
                continue;
            }
            calls++;
            String call = matcher.group(1) + "(" + matcher.group(2).replaceAll("\\w+ (\\w+)", "$1") + ")";
            String[] row = rowOf(readme, call);
            want(row.length == 5, "there is no row of three columns for " + call);
            if (row.length == 5) {
                List<String> due = refusals(promiseOf(document, matcher.group(1)));
                want(!row[2].isEmpty(), call + " does and answers something");
                want(refusals(row[3]).equals(due), call + " refuses by " + due + ", not by " + refusals(row[3]));
            }
        }
        want(calls == 32, "the document's face has 32 calls, not " + calls);
    }

    private static void numbers(String readme) {
        String[] due = {"| -1 | `NONE` |", "| -2 | `BAD` |", "| -3 | `STATE` |", "| -4 | `FULL` |", "| `Long.MIN_VALUE` | `NO` |",
            "| -10001 |", "| -10 and below |", "| -11 | | NOTHING:", "| -12 | | CAST:", "| -13 | | PLACE:", "| -14 | | SIZE:"};
        for (String number : due) {
            want(readme.contains("\n" + number), "it tells " + number);
        }
    }

    /** The examples as a program of which each answer that is told is looked at; it ends with how many were otherwise. */
    private static String program(String readme) {
        StringBuilder all = new StringBuilder("public class Examples {\n static int wrong;\n"
            + " static void due(String call, long got, long want) { if (got != want) { wrong++; System.out.println("
            + "\"README.md: \" + call + \" answered \" + got + \", it says \" + want); } }\n"
            + " public static int run() {\n");
        int answers = 0;
        Matcher block = EXAMPLE.matcher(readme);
        while (block.find()) {
            all.append("{\n");
            for (String line : block.group(1).split("\n")) {
                Matcher answered = ANSWERED.matcher(line.trim());
                if (answered.matches()) {
                    answers++;
                    String kept = answered.group(1);
                    String call = answered.group(2);
                    all.append(kept == null ? "" : "int " + kept + " = " + call + ";\n");
                    all.append("due(\"").append(call).append("\", ").append(kept == null ? call : kept).append(", ")
                        .append(answered.group(3)).append("L);\n");
                } else {
                    all.append(line).append('\n');
                }
            }
            all.append("}\n");
        }
        want(answers >= 15, "its examples tell answers: " + answers);
        return all.append("return wrong;\n }\n}\n").toString();
    }

    private static void examples(String readme) throws Exception {
        Path place = Files.createTempDirectory("readme");
        Path source = place.resolve("Examples.java");
        Files.writeString(source, program(readme));
        String here = Path.of(LaughingGate.class.getProtectionDomain().getCodeSource().getLocation().toURI()).toString();
        int faults = ToolProvider.getSystemJavaCompiler().run(null, null, null, "-cp", here, "-d", place.toString(), source.toString());
        want(faults == 0, "its examples compile");
        if (faults == 0) {
            try (URLClassLoader loader = new URLClassLoader(new URL[] {place.toUri().toURL()})) {
                wrong += (Integer) loader.loadClass("Examples").getMethod("run").invoke(null);
            }
        }
        remove(place);
    }

    private static void remove(Path place) throws IOException {
        for (String name : place.toFile().list()) {
            Files.delete(place.resolve(name));
        }
        Files.delete(place);
    }

    public static void main(String[] args) throws Exception {
        String readme = Files.readString(Path.of("README.md"));
        Path document = Path.of("../shared/DOC.md");
        if (Files.exists(document)) {
            calls(readme, Files.readString(document));
        }
        numbers(readme);
        examples(readme);
        System.out.println(wrong == 0 ? "the page tells all calls, and its examples hold" : wrong + " things of the page are wrong");
        if (wrong != 0) {
            System.exit(1);
        }
    }
}
