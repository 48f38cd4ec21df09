import java.io.IOException;
import java.io.UncheckedIOException;
import java.nio.file.Files;
import java.nio.file.Path;
import java.util.function.IntFunction;
import java.util.function.Supplier;

/**
 * Tests of one sentence of the document each. A test bears the part of the document in which its sentence stands
 * and the sentence's own words, which must stand there: a test cannot outlive the words that it is of.
 */
final class Sentences {
    /** What is just outside of 0 to 3, and far outside. */
    static final int[] NO_SUCH = {-1, 4, Integer.MIN_VALUE, Integer.MAX_VALUE};
    /** What is just outside of 0 to 99, and far outside. */
    static final int[] NO_ITEM = {-1, 100, Integer.MIN_VALUE, Integer.MAX_VALUE};
    static final String FULL = "1 2 3 4 5 6 7 8 9 10 11 12";

    private final Due due;
    private final String document;
    private int tests;

    Sentences(String test) {
        due = new Due(test);
        try {
            document = Files.readString(Path.of("../shared/DOC.md"));
        } catch (IOException gone) {
            throw new UncheckedIOException(gone);
        }
    }

    /** Of a sentence of a promise. */
    void promise(int number, String words, Runnable test) {
        run("promise " + number, behind("## Promise " + number + ":"), words, test);
    }

    /** Of a sentence of the Description's first paragraph. */
    void description(String words, Runnable test) {
        run("description", behind("## Description"), words, test);
    }

    /** Of a sentence of a part of the Description. */
    void description(int number, String words, Runnable test) {
        run("description " + number, behind("== " + number + "."), words, test);
    }

    /** What stands between this heading and the next one. */
    private String behind(String heading) {
        int from = document.indexOf(heading);
        if (from < 0) {
            return "";
        }
        String rest = document.substring(from + heading.length());
        return rest.split("\n(## |== )", 2)[0];
    }

    private void run(String name, String part, String words, Runnable test) {
        tests++;
        due.part(name + ", \"" + words + "\"");
        due.is(part.contains(words) ? "told by the document" : "not told by the document", "told by the document");
        int before = due.looked();
        try {
            test.run();
            due.is(due.looked() > before ? "answers" : "no answer", "answers");
        } catch (RuntimeException thrown) {
            due.is("the test's calls threw " + thrown, "answers");
        }
    }

    void is(Object got, Object want) {
        due.is(got, want);
    }

    /** The call throws just this exception, and what stood stands, as digest() tells. */
    void fails(Cutwalks x, String exception, Supplier<Object> call) {
        due.fails(x, exception, call);
    }

    interface Call {
        Object on(Cutwalks x, int number);
    }

    /** Of each of these numbers the call throws, and changes nothing. */
    void outside(Cutwalks x, String exception, int[] numbers, Call call) {
        for (int number : numbers) {
            due.fails(x, exception, () -> call.on(x, number));
        }
    }

    /** Of each number from a first one to a last one, on an object made for it, the call answers this. */
    void inside(int first, int last, Object answer, Supplier<Cutwalks> made, Call call) {
        for (int number = first; number <= last; number++) {
            Cutwalks x = made.get();
            int asked = number;
            due.is(Due.answer(() -> call.on(x, asked)), answer);
        }
    }

    /** As inside(), but each number has an answer of its own. */
    void insideEach(int first, int last, IntFunction<Object> answer, Supplier<Cutwalks> made, Call call) {
        for (int number = first; number <= last; number++) {
            inside(number, number, answer.apply(number), made, call);
        }
    }

    void end() {
        System.out.print(tests + " sentences: ");
        due.end();
    }

    /** A new object with these ROWS, each told as its text. */
    static Cutwalks rows(String... texts) {
        Cutwalks x = new Cutwalks();
        for (int row = 0; row < texts.length; row++) {
            fill(x, row, texts[row]);
        }
        return x;
    }

    static void fill(Cutwalks x, int row, String text) {
        for (String item : text.split(" ")) {
            if (!item.isEmpty()) {
                x.put(row, Integer.parseInt(item));
            }
        }
    }

    /** A new object whose ROW 0 has these items, and WALK 0 over it at a CUT. */
    static Cutwalks walking(int cut, String text) {
        Cutwalks x = rows(text);
        x.open(0, 0, cut);
        return x;
    }

    /** ROWS of 5, 12, 0 and 1 items; WALK by WALK over them: in the midst, at the end, over none, at the beginning. */
    static Cutwalks house() {
        Cutwalks x = rows("3 1 4 1 5", FULL, "", "7");
        x.open(0, 0, 2);
        x.open(1, 1, 12);
        x.open(2, 2, 0);
        x.open(3, 3, 0);
        return x;
    }

    /** What is AHEAD, what is BEHIND, and LAST. */
    static String stand(Cutwalks x, int walk) {
        int stale = x.ofWalk(walk, 6);
        if (stale != 0) {
            return stale == 1 ? "stale" : "not there";
        }
        return x.ahead(walk) + "|" + x.behind(walk) + "|" + x.ofWalk(walk, 5);
    }

    static String text(Cutwalks x) {
        return x.text(0, false) + "/" + x.text(1, false) + "/" + x.text(2, false) + "/" + x.text(3, false);
    }

    /** All that stands: the ROWS, the WALKS, and how often REFUSED was told. */
    static String all(Cutwalks x) {
        StringBuilder all = new StringBuilder(text(x));
        for (int walk = 0; walk < 4; walk++) {
            all.append(" ; ").append(x.ofWalk(walk, 0)).append(' ').append(stand(x, walk));
        }
        return all.append(" ; ").append(x.house(3)).toString();
    }
}
