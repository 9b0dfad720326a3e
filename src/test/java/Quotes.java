import java.io.IOException;
import java.nio.charset.StandardCharsets;
import java.nio.file.Files;
import java.nio.file.Path;

/** Rows of answers, each under the sentence of the document that asks for it. */
final class Quotes {
    static final int TERMS = 0;
    static final int PROMISES = 48;

    private final Check check;
    /** The document's words: those of the terms, then those of each promise. */
    private final String[] parts = new String[PROMISES + 1];
    private final boolean[][] quoted = new boolean[PROMISES + 1][];
    private String now = "";
    private int rows = 1;

    Quotes(Check check, Path document) throws IOException {
        this.check = check;
        String text = Files.readString(document, StandardCharsets.UTF_8);
        parts[TERMS] = plain(between(text, "==== 1.\n", "## The public face")
                + between(text, "## Terms\n", "## Promise 1:"));
        for (int n = 1; n <= PROMISES; n++) {
            parts[n] = plain(between(text, "## Promise " + n + ":", "\n## ").replaceFirst("[^\n]*\n", ""));
        }
        for (int n = 0; n <= PROMISES; n++) {
            quoted[n] = new boolean[parts[n].length()];
        }
    }

    private static String between(String text, String first, String last) {
        int from = text.indexOf(first);
        int to = from < 0 ? -1 : text.indexOf(last, from + first.length());
        return to < 0 ? "" : text.substring(from + first.length(), to);
    }

    private static String plain(String text) {
        return text.replaceAll("(?m)^```.*$", "").replaceAll("==== \\d\\.", "").replaceAll("\\s+", " ");
    }

    /** The rows that follow stand under this sentence of the terms (0) or of a promise. */
    void says(int part, String sentence) {
        close();
        now = (part == TERMS ? "Terms" : "Promise " + part) + ", '" + sentence + "'";
        rows = 0;
        int at = parts[part].indexOf(sentence);
        check.due("stands in the document: " + now, at >= 0, true);
        for (int i = Math.max(0, at); at >= 0 && i < at + sentence.length(); i++) {
            quoted[part][i] = true;
        }
    }

    private void close() {
        check.due("has a row: " + now, rows > 0, true);
    }

    void due(String call, long got, long want) {
        rows++;
        check.due(now + ": " + call, got, want);
    }

    void due(String call, boolean got, boolean want) {
        due(call, got ? 1 : 0, want ? 1 : 0);
    }

    /** A text whose fault is behind its first part. */
    void fault(String before, String rest, int sort) {
        TailorRegiment x = new TailorRegiment();
        Check.tell(x, before + rest);
        due("regiment() of " + before + rest, x.regiment(), -1);
        due("fault(0) of " + before + rest, x.fault(0), sort);
        due("fault(1) of " + before + rest, x.fault(1), before.length());
    }

    /** A text without a fault: what it makes, and how many men. */
    TailorRegiment good(String text, int men) {
        TailorRegiment x = new TailorRegiment();
        Check.tell(x, text);
        due("regiment() of " + text, x.regiment(), men);
        due("fault(0) of " + text, x.fault(0), 0);
        due("fault(1) of " + text, x.fault(1), -1);
        return x;
    }

    /** What lies there, and nothing beside it. */
    void lies(String of, TailorRegiment x, int... due) {
        due(of + ": about(13)", x.about(13), due.length);
        for (int i = 0; i < due.length; i++) {
            due(of + ": lies(" + i + ")", x.lies(i), due[i]);
        }
        due(of + ": lies(" + due.length + ")", x.lies(due.length), -2);
    }

    /** Every word of the terms and promises stands in a quoted sentence; signatures have none. */
    void allQuoted() {
        close();
        for (int n = 0; n <= PROMISES; n++) {
            StringBuilder left = new StringBuilder();
            boolean code = false;
            for (int i = 0; i < parts[n].length(); i++) {
                char c = parts[n].charAt(i);
                code ^= c == '`';
                if (!code && !quoted[n][i]) {
                    left.append(c);
                }
            }
            String words = left.toString().replaceAll("[^A-Za-z0-9]+", " ").trim();
            check.due((n == TERMS ? "Terms" : "Promise " + n) + ", not quoted: " + words, words.isEmpty(), true);
        }
    }
}
