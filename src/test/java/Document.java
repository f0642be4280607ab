import java.io.IOException;
import java.nio.charset.StandardCharsets;
import java.nio.file.Files;
import java.nio.file.Path;
import java.util.Set;
import java.util.TreeSet;
import java.util.regex.Matcher;
import java.util.regex.Pattern;

/** The document's parts: 0 is all ahead of "Promise 1" (its "Terms"), 1 to 39 are the promises. */
final class Document {
    static final int PROMISES = 39;
    private static final Path PLACE = Path.of("../shared/DOC.md");
    private static final Pattern NUMBER_BELOW_ZERO = Pattern.compile("-[0-9]+");

    private final String[] parts = new String[PROMISES + 1];

    Document() throws IOException {
        String text = Files.readString(PLACE, StandardCharsets.UTF_8);
        int end = text.indexOf("## Not promised");
        for (int promise = PROMISES; promise >= 1; promise--) {
            int begin = text.indexOf("## Promise " + promise + ":");
            parts[promise] = flat(text.substring(begin, end));
            end = begin;
        }
        parts[0] = flat(text.substring(0, end));
    }

    static String name(int part) {
        return part == 0 ? "Terms" : "Promise " + part;
    }

    boolean says(int part, String sentence) {
        return parts[part].contains(flat(sentence));
    }

    /** Every number below 0 that the part names: the refusals, and the edges like -9. */
    Set<String> numbersBelowZero(int part) {
        return numbersIn(parts[part]);
    }

    static Set<String> numbersIn(String text) {
        Set<String> numbers = new TreeSet<>();
        Matcher m = NUMBER_BELOW_ZERO.matcher(text);
        while (m.find()) {
            numbers.add(m.group());
        }
        return numbers;
    }

    private static String flat(String text) {
        return text.replaceAll("\\s+", " ").trim();
    }
}
