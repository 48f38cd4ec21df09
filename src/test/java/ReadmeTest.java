import java.io.IOException;
import java.lang.reflect.Method;
import java.nio.file.DirectoryStream;
import java.nio.file.Files;
import java.nio.file.Path;
import java.util.Set;
import java.util.regex.Matcher;
import java.util.regex.Pattern;

/** README.md tells of the class in the document's words, and its examples answer what stands behind them. */
public final class ReadmeTest {
    private static final Path OWN_TESTS = Path.of("src/test/java");
    private static final Pattern EXAMPLE = Pattern.compile("```java\n(.*?)```", Pattern.DOTALL);
    private static final Pattern CALL = Pattern.compile("x\\.(\\w+)\\((.*)\\); +// (.*)");
    private static final Pattern PROMISE = Pattern.compile("\n## Promise (\\d+): [^\n]*\n(.*?)(?=\n## )", Pattern.DOTALL);
    private static final Pattern SIGNATURE = Pattern.compile("`(?:(?!`| throws ).)*");
    // What README.md says of all calls together.
    private static final Set<String> USUAL = Set.of("row: a ROW", "walk: a WALK", "item: the ITEM", "place: the PLACE",
            "place: a PLACE");

    private static final Due due = new Due("ReadmeTest");

    public static void main(String[] args) throws IOException {
        String readme = Files.readString(Path.of("README.md"));
        String document = Files.readString(Path.of("../shared/DOC.md"));
        examples(readme);
        description(readme, document);
        promises(readme, document);
        tests(readme);
        due.end();
    }

    /** Without the marks and the line ends, which README.md sets as it likes. */
    private static String plain(String text) {
        return text.replace("`", "").replaceAll("\\s+", " ").trim();
    }

    private static void says(String part, String words) {
        String wanted = plain(words);
        due.is(plain(part).contains(wanted) ? wanted : "not told", wanted);
    }

    private static void examples(String readme) {
        int calls = 0;
        Matcher example = EXAMPLE.matcher(readme);
        while (example.find()) {
            Cutwalks x = new Cutwalks();
            for (String line : example.group(1).split("\n")) {
                due.part("example " + line);
                Matcher call = CALL.matcher(line);
                if (call.matches()) {
                    calls++;
                    due.is(answer(x, call.group(1), call.group(2).split(", *")), call.group(3));
                } else {
                    due.is(line, "Cutwalks x = new Cutwalks();");
                }
            }
        }
        due.is(calls > 50 ? "many" : calls + " calls", "many");
    }

    /** The answer as README.md writes it. */
    private static String answer(Cutwalks x, String name, String[] arguments) {
        for (Method method : Cutwalks.class.getDeclaredMethods()) {
            if (method.getName().equals(name)) {
                Object[] given = new Object[method.getParameterCount()];
                for (int i = 0; i < given.length; i++) {
                    boolean isTruth = method.getParameterTypes()[i] == boolean.class;
                    given[i] = isTruth ? (Object) arguments[i].equals("true") : (Object) Integer.valueOf(arguments[i]);
                }
                String told = String.valueOf(Due.answer(x, method, given));
                return method.getReturnType() == String.class && !told.startsWith("throws") ? '"' + told + '"' : told;
            }
        }
        return "no such call";
    }

    private static void description(String readme, String document) {
        int from = document.indexOf("## Description") + "## Description".length();
        String description = document.substring(from, document.indexOf("The constructor and the methods follow"));
        int sentences = 0;
        for (String line : description.split("\n")) {
            due.part("Description");
            if (!line.isBlank() && !line.startsWith("==")) {
                for (String sentence : line.trim().split("(?<=\\.) +(?=[-A-Z])")) {
                    sentences++;
                    says(readme, sentence);
                }
            }
        }
        due.is(sentences >= 30 ? "many" : sentences + " sentences", "many");
    }

    private static void promises(String readme, String document) {
        int promises = 0;
        Matcher promise = PROMISE.matcher(document);
        while (promise.find()) {
            promises++;
            due.promise(Integer.parseInt(promise.group(1)));
            due.is(promise.group(1), String.valueOf(promises));
            Matcher signature = SIGNATURE.matcher(promise.group(2));
            String call = signature.find() ? signature.group() + "`" : "no signature";
            String told = toldOf(call, readme);
            due.is(told.isEmpty() ? "not told" : call, call);
            int exceptions = 0;
            for (String line : promise.group(2).split("\n")) {
                if (line.startsWith("Throws ")) {
                    exceptions++;
                    says(told, line.substring("Throws ".length()));
                } else if (!line.isBlank() && !line.startsWith("----") && !line.startsWith("`")) {
                    String words = plain(line.startsWith("- ") ? line.substring(2) : line);
                    due.is(USUAL.contains(words) || plain(told).contains(words) ? words : "not told", words);
                }
            }
            due.is(told.split("Exception`", -1).length - 1, exceptions);
        }
        due.is(promises, 47);
    }

    /** What README.md says of one call. */
    private static String toldOf(String call, String readme) {
        int from = readme.indexOf("\n- " + call);
        return from < 0 ? "" : readme.substring(from + 1).split("\n(- |\n)", 2)[0];
    }

    private static void tests(String readme) throws IOException {
        due.part("Tests");
        says(readme, "`.ci/run`");
        try (DirectoryStream<Path> all = Files.newDirectoryStream(OWN_TESTS, "*Test.java")) {
            for (Path test : all) {
                String name = test.getFileName().toString().replace(".java", "");
                due.is(readme.contains("`" + name + "`") ? name : "not told", name);
            }
        }
    }
}
