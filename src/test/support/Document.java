import java.io.IOException;
import java.io.UncheckedIOException;
import java.nio.file.Files;
import java.nio.file.Path;
import java.util.ArrayList;
import java.util.BitSet;
import java.util.List;
import java.util.Map;
import java.util.TreeMap;

/**
 * The words of ../shared/DOC.md, so that each test of a bound names words that stand there, and so
 * that a sentence without a test is found.
 */
final class Document {
    private static final Path PAGE = Path.of("../shared/DOC.md");
    private static final int PROMISES = 27;
    private static final int TERMS = 0;

    /** Part 0 is 'Terms', the others are the promises. */
    private final Map<Integer, String> parts = new TreeMap<>();
    private final Map<Integer, BitSet> tested = new TreeMap<>();

    Document() {
        String page = read().replace("```text", " ").replace("```", " ").replaceAll("(?m)^Ahead of the calls .*$", "");
        String title = between(page, "======== 1 ", "An object is used");
        add(TERMS, title.strip().replaceAll("\\(n 2 \\.\\.$", "(n 2 .. ") + between(page, "## Terms", "## Promise 1:"));
        for (int i = 1; i <= PROMISES; i++) {
            String next = i < PROMISES ? "## Promise " + (i + 1) + ":" : "## Not promised";
            String part = between(page, "## Promise " + i + ":", next);
            add(i, part.substring(part.indexOf("`:") + 2));
        }
    }

    private static String read() {
        try {
            return Files.readString(PAGE);
        } catch (IOException e) {
            throw new UncheckedIOException(e);
        }
    }

    private static String between(String page, String from, String to) {
        int start = page.indexOf(from) + from.length();
        return page.substring(start, page.indexOf(to, start));
    }

    private void add(int part, String words) {
        parts.put(part, words.replaceAll("\\s+", " ").strip());
        tested.put(part, new BitSet());
    }

    /** Marks words as tested; answers whether they stand in the promise, the terms or another promise. */
    boolean holds(int promise, String words) {
        if (marks(promise, words)) {
            return true;
        }
        for (int part : parts.keySet()) {
            if (marks(part, words)) {
                return true;
            }
        }
        return false;
    }

    private boolean marks(int part, String words) {
        int at = parts.get(part).indexOf(words);
        if (at >= 0) {
            tested.get(part).set(at, at + words.length());
        }
        return at >= 0;
    }

    /** The clauses no test rests on. */
    List<String> untested() {
        List<String> all = new ArrayList<>();
        parts.forEach((part, words) -> {
            int start = 0;
            for (int end = 1; end <= words.length(); end++) {
                if (end == words.length() || isEnd(words, end)) {
                    int first = tested.get(part).nextSetBit(start);
                    if ((first < 0 || first > end) && words.substring(start, end).matches(".*[A-Za-z].*")) {
                        all.add((part == TERMS ? "Terms" : "Promise " + part) + ": " + words.substring(start, end));
                    }
                    start = end + 1;
                }
            }
        });
        return all;
    }

    /** Two dots in a row are a range, no end. */
    private static boolean isEnd(String words, int at) {
        boolean isMark = ".;:".indexOf(words.charAt(at)) >= 0;
        boolean isBehindWord = ". ".indexOf(words.charAt(at - 1)) < 0;
        boolean isAheadOfGap = at + 1 >= words.length() || words.charAt(at + 1) == ' ';
        return isMark && isBehindWord && isAheadOfGap;
    }
}
