import java.io.IOException;
import java.lang.reflect.Constructor;
import java.lang.reflect.Field;
import java.lang.reflect.Method;
import java.lang.reflect.Modifier;
import java.nio.file.Files;
import java.nio.file.Path;
import java.util.ArrayList;
import java.util.List;
import java.util.Set;
import java.util.TreeSet;
import java.util.regex.Matcher;
import java.util.regex.Pattern;

/** The face is the document's, sign by sign, and what LANGUAGE.md rules out does not stand in the source. */
public final class FaceTest {
    private static final Path SOURCE = Path.of("src/main/java/Cutwalks.java");
    private static final Path DOCUMENT = Path.of("../shared/DOC.md");
    private static final String[] RULED_OUT = {
        "->", "::", "\\bimport\\b", "\\bpackage\\b", "\\bsynchronized\\b", "\\bassert\\b", "\\bfinally\\b", "\\bcatch\\b",
        "\\btry\\b", "static \\{", "Exact\\(", "\\bequals\\b", "\\bhashCode\\b", "String toString", "\\bMath\\.random\\b",
        "\\bSystem\\.", "\\bThread\\b", "\\bclone\\b", "String\\.format", "\\bprotected\\b", "while", "\\bnull\\b"};

    private static int wrong;

    public static void main(String[] args) throws IOException {
        String source = Files.readString(SOURCE);
        signatures(source, Files.readString(DOCUMENT));
        members();
        ruledOut(source);
        shortMethods(source);
        System.out.println("FaceTest: " + wrong + " wrong");
        if (wrong != 0) {
            System.exit(1);
        }
    }

    private static void say(boolean isSo, String what) {
        if (!isSo) {
            wrong++;
            System.out.println("FaceTest: " + what);
        }
    }

    private static List<String> found(String pattern, String in) {
        List<String> found = new ArrayList<>();
        Matcher matcher = Pattern.compile(pattern, Pattern.MULTILINE).matcher(in);
        while (matcher.find()) {
            found.add(matcher.group(1));
        }
        return found;
    }

    private static void signatures(String source, String document) {
        String face = document.substring(document.indexOf("```java"), document.indexOf("## Description"));
        List<String> asked = found("^    (public [^;]*);$", face);
        List<String> written = found("^    (public [^;{]*) \\{$", source);
        say(asked.size() > 40, "the document's face was not found");
        say(asked.equals(written), "the face is " + written + ", due is " + asked);
    }

    private static void members() {
        say(Modifier.isPublic(Cutwalks.class.getModifiers()) && Modifier.isFinal(Cutwalks.class.getModifiers()),
                "the class is not public and final");
        Set<String> open = new TreeSet<>();
        for (Method method : Cutwalks.class.getDeclaredMethods()) {
            if (Modifier.isPublic(method.getModifiers())) {
                open.add(method.getName());
            } else {
                say(Modifier.isPrivate(method.getModifiers()), method + " is not private");
            }
        }
        for (Method method : Cutwalks.class.getDeclaredMethods()) {
            say(Modifier.isPublic(method.getModifiers()) || !open.contains(method.getName()),
                    method + " bears the name of a public one");
        }
        for (Field field : Cutwalks.class.getDeclaredFields()) {
            say(Modifier.isPrivate(field.getModifiers()), field + " is not private");
            say(!Modifier.isStatic(field.getModifiers()) || Modifier.isFinal(field.getModifiers()), field + " is not final");
        }
        Constructor<?>[] constructors = Cutwalks.class.getDeclaredConstructors();
        say(constructors.length == 1 && Modifier.isPublic(constructors[0].getModifiers()), "the constructors are others");
        for (Class<?> inside : Cutwalks.class.getDeclaredClasses()) {
            say(Modifier.isStatic(inside.getModifiers()) && !Modifier.isPublic(inside.getModifiers()), inside + " is open");
            for (Method method : inside.getDeclaredMethods()) {
                say(!open.contains(method.getName()), method + " bears the name of a public one");
            }
        }
    }

    private static void ruledOut(String source) {
        String code = source.replaceAll("(?s)/\\*.*?\\*/", "").replaceAll("//.*", "").replaceAll("\"[^\"]*\"", "\"\"");
        for (String sign : RULED_OUT) {
            say(!Pattern.compile(sign).matcher(code).find(), sign + " stands in the source");
        }
        for (String thrown : found("throw new (\\w+)\\(", code)) {
            say(thrown.matches("IndexOutOfBoundsException|IllegalArgumentException|IllegalStateException"),
                    thrown + " is no exception of the document");
        }
    }

    private static void shortMethods(String source) {
        int since = 0;
        String head = "";
        for (String line : source.split("\n")) {
            since++;
            if (line.matches(" {4}( {4})?\\w.*\\) (throws .*)?\\{")) {
                since = 0;
                head = line;
            }
            if (line.matches(" {4}( {4})?\\}")) {
                say(since < 40 || head.isEmpty(), head.trim() + " has " + since + " lines");
                head = "";
            }
        }
    }
}
