import java.io.IOException;
import java.nio.file.Files;
import java.nio.file.Path;
import java.util.ArrayList;
import java.util.List;
import java.util.function.Supplier;

/**
 * Tests of single sentences. Each is named by the part of the document and by the words of the sentence, and in the
 * end these are compared with the document: each sentence of it has its test, or is told to name no boundary case.
 */
final class Edge {
    private static final Path DOCUMENT = Path.of("../shared/DOC.md");
    private static final List<Class<?>> REFUSALS = List.of(IndexOutOfBoundsException.class,
            IllegalArgumentException.class, IllegalStateException.class);

    /** A call with one value that varies. */
    interface Valued {
        int on(VisitHours x, int value);
    }

    private record Sentence(String part, String words) {
    }

    private static final List<Sentence> SENTENCES = new ArrayList<>();

    private Edge() {
    }

    static void test(String part, String words, Runnable checks) {
        SENTENCES.add(new Sentence(part, words));
        Check.about(part + ", \"" + words + "\"");
        int before = Check.count();
        try {
            checks.run();
        } catch (RuntimeException e) {
            Check.same("the whole test", e.toString(), "without an exception");
        }
        Check.is("has checks", Check.count() > before ? 1 : 0, 1);
    }

    /** Sentences without a boundary case of their own. */
    static void plain(String part, String... sentences) {
        for (String words : sentences) {
            SENTENCES.add(new Sentence(part, words));
        }
    }

    /** The least and the greatest value of a range are taken. */
    static void inside(String what, int least, int most, Supplier<VisitHours> maker, Valued call) {
        for (int value : new int[] {least, most}) {
            String answer = Check.outcome(maker.get(), y -> call.on(y, value));
            Check.is(what + " " + value + " is taken: " + answer, answer.endsWith("Exception") ? 0 : 1, 1);
        }
    }

    /** The values beside a range and the ends of int are refused, and nothing is different then. */
    static void outside(String what, int least, int most, Class<?> due, Supplier<VisitHours> maker, Valued call) {
        for (int value : new int[] {least - 1, most + 1, Integer.MIN_VALUE, Integer.MAX_VALUE}) {
            Check.refuses(what + " " + value, due, maker, y -> call.on(y, value));
        }
    }

    static void noIndex(String what, int least, int most, Supplier<VisitHours> maker, Valued call) {
        outside(what, least, most, REFUSALS.get(0), maker, call);
    }

    static void noArgument(String what, int least, int most, Supplier<VisitHours> maker, Valued call) {
        outside(what, least, most, REFUSALS.get(1), maker, call);
    }

    // ---- the document

    static void compareWithDocument() throws IOException {
        Check.about("the sentences of the document");
        if (!Files.exists(DOCUMENT)) {
            System.out.println(DOCUMENT + " is not here: its sentences are not compared");
            return;
        }
        for (String part : Files.readString(DOCUMENT).split("(?m)^#+ ")) {
            int end = part.indexOf('\n');
            String name = part.substring(0, Math.max(end, 0)).replaceAll(":.*", "").strip();
            if (name.equals("Terms") || name.startsWith("Promise ")) {
                comparePart(name, oneLine(part.substring(end)));
            }
        }
    }

    private static void comparePart(String name, String text) {
        StringBuilder left = new StringBuilder(text.replaceAll("^`[^`]*`:", ""));
        String whole = left.toString();
        for (Sentence s : SENTENCES) {
            if (s.part.equals(name)) {
                int at = whole.indexOf(oneLine(s.words));
                Check.is(name + " has \"" + s.words + "\"", at >= 0 ? 1 : 0, 1);
                for (int i = Math.max(at, 0); at >= 0 && i < at + oneLine(s.words).length(); i++) {
                    left.setCharAt(i, ' ');
                }
            }
        }
        String rest = oneLine(left.toString().replaceAll("(^| )[-.,:;()]+(?= |$)", " "));
        Check.same(name + " without its tests", rest, "");
    }

    private static String oneLine(String text) {
        return text.replaceAll("\\s+", " ").strip();
    }
}
