import java.io.IOException;
import java.io.UncheckedIOException;
import java.nio.charset.StandardCharsets;
import java.nio.file.Files;
import java.nio.file.Path;
import java.util.Arrays;
import java.util.function.IntUnaryOperator;

/** Counts the answers that are not as due, and ends a test with exit code 1 if there was one. */
final class Check {
    static final int BAD = ChildPay.BAD, NO = ChildPay.NO, FULL = ChildPay.FULL, NONE = ChildPay.NONE,
            NOTHING = ChildPay.NOTHING, INDEX = ChildPay.INDEX, SIZE = ChildPay.SIZE;
    static final int[] FAR = {Integer.MIN_VALUE, Integer.MIN_VALUE + 1, -1000000, Integer.MAX_VALUE - 1, Integer.MAX_VALUE};
    static final String DOCUMENT = "../shared/DOC.md";
    static final String PROGRAM = "src/main/java/ChildPay.java";

    private int asked;
    private int wrong;
    private String sentence = "";
    private String document;

    /** What follows tests this sentence; it must stand in the document word for word. */
    void says(String words) {
        sentence = "";
        that("the document says '" + words + "'", document().contains(words));
        sentence = "'" + words + "': ";
    }

    void due(String call, long got, long want) {
        asked++;
        if (got == want) return;
        wrong++;
        System.out.println(sentence + call + " answered " + got + ", due is " + want);
    }

    void that(String what, boolean holds) {
        due(what, holds ? 1 : 0, 1);
    }

    /** A call as a function of one argument: taken from least to most, BAD beyond. */
    void range(String call, int least, int most, IntUnaryOperator ask) {
        for (int fine : new int[] {least, least + (most - least) / 2, most}) {
            that(call + " takes " + fine, ask.applyAsInt(fine) != BAD);
        }
        for (int beyond : new int[] {least - 1, most + 1}) due(call + " with " + beyond, ask.applyAsInt(beyond), BAD);
        for (int far : FAR) due(call + " with " + far, ask.applyAsInt(far), BAD);
    }

    void end() {
        System.out.println(asked + " answers, " + wrong + " wrong");
        if (wrong != 0 || asked == 0) System.exit(1);
    }

    /** Puts a text on an empty tape. */
    static void tape(ChildPay x, String text) {
        byte[] bytes = text.getBytes(StandardCharsets.ISO_8859_1);
        byte[] padded = Arrays.copyOf(bytes, (bytes.length + 11) / 12 * 12);
        for (int i = 0; i < padded.length; i += 12) {
            x.feed(four(padded, i), four(padded, i + 4), four(padded, i + 8));
        }
        x.trim(bytes.length);
    }

    static int law(ChildPay x, String text, int from) {
        tape(x, text);
        return x.law(from);
    }

    /** A file's text with single blanks between its words. */
    static String wordsOf(String path) {
        return textOf(path).replaceAll("\\s+", " ");
    }

    static String textOf(String path) {
        try {
            return Files.readString(Path.of(path));
        } catch (IOException e) {
            throw new UncheckedIOException(e);
        }
    }

    private String document() {
        if (document == null) document = wordsOf(DOCUMENT);
        return document;
    }

    private static int four(byte[] bytes, int at) {
        return (bytes[at] & 255) << 24 | (bytes[at + 1] & 255) << 16 | (bytes[at + 2] & 255) << 8 | bytes[at + 3] & 255;
    }
}
