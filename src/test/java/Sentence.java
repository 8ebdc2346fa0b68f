import java.io.IOException;
import java.io.UncheckedIOException;
import java.nio.file.Files;
import java.nio.file.Path;
import java.util.HashMap;
import java.util.Map;
import java.util.regex.Matcher;
import java.util.regex.Pattern;

/**
 * Tests that each quote a sentence of ../shared/DOC.md: a heading ('What it is', 'The public face', 'Terms', 'Not
 * promised'), a part ('2 PICKING' to '6 STATUS') or a promise ('Promise 1' to 'Promise 55') is named, and the words
 * must stand in it. finishParts() and finishPromises() fail, if one that was to be gone through has words that no test
 * quotes: so a sentence can't be left without a test of its own.
 */
final class Sentence {
    private static final Pattern PART = Pattern.compile("==== (\\d [A-Z]+)");
    private static final Map<String, String> TEXTS = new HashMap<>();
    private static final Map<String, boolean[]> QUOTED = new HashMap<>();

    static {
        try {
            read(Files.readString(Path.of("../shared/DOC.md")));
        } catch (IOException e) {
            throw new UncheckedIOException(e);
        }
    }

    private Sentence() {
    }

    static void test(String where, String words, String rows) {
        quote(where, words);
        Script.run(where + ", '" + words + "'", rows);
    }

    /** For a test that is not written in rows, or for words without a case of their own. */
    static void quote(String where, String words) {
        String text = TEXTS.get(where);
        int at = text == null ? -1 : text.indexOf(words);
        if (at < 0 || text.indexOf(words, at + 1) >= 0) {
            Script.fail(where + " does not have the words '" + words + "', or has them twice");
            return;
        }
        for (int k = 0; k < words.length(); k++) {
            QUOTED.get(where)[at + k] = true;
        }
    }

    static void finishPromises(int first, int last) {
        for (int promise = first; promise <= last; promise++) {
            lookThrough("Promise " + promise);
        }
        Script.finish();
    }

    static void finishParts(String... parts) {
        for (String part : parts) {
            lookThrough(part);
        }
        Script.finish();
    }

    private static void lookThrough(String where) {
        String text = TEXTS.get(where);
        if (text == null) {
            Script.fail("the document has no " + where);
            return;
        }
        StringBuilder left = new StringBuilder();
        for (int k = 0; k < text.length(); k++) {
            left.append(QUOTED.get(where)[k] ? ' ' : text.charAt(k));
        }
        if (Pattern.compile("\\w").matcher(left).find()) {
            Script.fail(where + ": no test quotes '" + left.toString().replaceAll("\\s+", " ").trim() + "'");
        }
    }

    private static void read(String document) {
        for (String section : document.replaceAll("```\\w*", "").split("\n## ")) {
            String title = section.substring(0, section.indexOf('\n'));
            String text = section.substring(section.indexOf('\n'));
            if (title.startsWith("Promise ")) {
                keep(title.substring(0, title.indexOf(':')), text.replaceFirst("^\\s*`[^`]*`: ", ""));
            } else if (title.equals("Terms")) {
                readParts(text);
            } else {
                keep(title, text);
            }
        }
    }

    private static void readParts(String text) {
        Matcher part = PART.matcher(text);
        String name = "Terms";
        int begun = 0;
        while (part.find()) {
            keep(name, text.substring(begun, part.start()));
            name = part.group(1);
            begun = part.start(1) + 2;
        }
        keep(name, text.substring(begun));
    }

    private static void keep(String where, String text) {
        String line = text.replaceAll("\\s+", " ").trim();
        TEXTS.put(where, line);
        QUOTED.put(where, new boolean[line.length()]);
    }
}
