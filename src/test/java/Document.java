import java.io.IOException;
import java.nio.file.Files;
import java.nio.file.Path;
import java.util.ArrayList;
import java.util.List;
import java.util.regex.Matcher;
import java.util.regex.Pattern;

/**
 * The sentences of ../shared/DOC.md that promise something: those of the Description, and those of the section of
 * each promise. Each test names the sentences that it is of; what no test named is told in the end.
 */
final class Document {
    static final int PROMISES = 53;

    /** The words of the Description at 0, those of each promise at its number; one blank between two words. */
    private final String[] words = new String[PROMISES + 1];
    private final boolean[][] isNamed = new boolean[PROMISES + 1][];

    Document() {
        String text = read();
        words[0] = plain(between(text, "An object is used", "## The public face") + " "
                + between(text, "## Description", "The constructor and the methods follow").replaceAll("(?m)^== \\d\\. .*$", ""));
        for (int promise = 1; promise <= PROMISES; promise++) {
            String end = promise == PROMISES ? "## Not promised" : "## Promise " + (promise + 1) + ":";
            String section = between(text, "## Promise " + promise + ":", end);
            // neither the head, nor the signature, nor the name of a group of methods
            words[promise] = plain(section.replaceFirst("^.*\\n", "").replaceAll("(?m)^`.*$", "").replaceAll("(?m)^----.*$", ""));
        }
        for (int part = 0; part <= PROMISES; part++) {
            isNamed[part] = new boolean[words[part].length()];
        }
    }

    private static String read() {
        try {
            return Files.readString(Path.of("../shared/DOC.md"));
        } catch (IOException e) {
            throw new IllegalStateException("../shared/DOC.md is not there", e);
        }
    }

    private static String between(String text, String from, String to) {
        int start = text.indexOf(from);
        int end = text.indexOf(to, start);
        if (start < 0 || end < 0) {
            throw new IllegalStateException("the document has no part from \"" + from + "\" to \"" + to + "\"");
        }
        String part = text.substring(start, end);
        return from.startsWith("##") ? part.substring(from.length()) : part;
    }

    private static String plain(String text) {
        return text.replaceAll("\\s+", " ").trim();
    }

    /** Marks what a test is of; false, if the document does not say that there. */
    boolean name(int part, String quote) {
        String sought = plain(quote);
        int at = words[part].indexOf(sought);
        if (at < 0 || sought.isEmpty()) {
            return false;
        }
        while (at >= 0) {
            for (int sign = at; sign < at + sought.length(); sign++) {
                isNamed[part][sign] = true;
            }
            at = words[part].indexOf(sought, at + 1);
        }
        return true;
    }

    /** What no test named, each with the number of its promise (0 for the Description). */
    List<String> unnamed() {
        List<String> all = new ArrayList<>();
        for (int part = 0; part <= PROMISES; part++) {
            StringBuilder left = new StringBuilder();
            for (int sign = 0; sign < words[part].length(); sign++) {
                left.append(isNamed[part][sign] ? '\n' : words[part].charAt(sign));
            }
            Matcher sentence = Pattern.compile("[^\\n]*[A-Za-z0-9][^\\n]*").matcher(left);
            while (sentence.find()) {
                all.add(part + ": " + sentence.group().trim());
            }
        }
        return all;
    }
}
