import java.util.LinkedHashMap;
import java.util.Map;
import java.util.regex.Matcher;
import java.util.regex.Pattern;

/**
 * The document's sentences: a test quotes one ahead of its checks. A quotation must stand in the
 * document, checks must come behind it, and at the end no part may hold words that no test quoted.
 */
final class Sentences {
    private static final Pattern PROMISE =
        Pattern.compile("## Promise (\\d+): \\w[^\n]*\n\n`[^`]*`: ([^\n]*)\n");
    private static final Pattern TERMS = Pattern.compile("(?s)\n## Terms\n(.*?)\nAhead of the calls");
    private static final StackWalker STACK = StackWalker.getInstance();

    private final Due due;
    private final Map<String, StringBuilder> unquoted = new LinkedHashMap<>();
    private String quoted = "";
    private int checks = 1;

    Sentences(Due due, String document) {
        this.due = due;
        Matcher terms = TERMS.matcher(document);
        String found = terms.find() ? terms.group(1) : "";
        unquoted.put("Terms", new StringBuilder(found.replaceAll("```(text)?|==== \\d", "")));
        Matcher promise = PROMISE.matcher(document);
        while (promise.find()) {
            unquoted.put("Promise " + promise.group(1), new StringBuilder(promise.group(2)));
        }
        due.is("how many promises the document has", unquoted.size() - 1, 37);
    }

    void promise(int number, String sentence) {
        quote("Promise " + number, sentence);
    }

    void term(String sentence) {
        quote("Terms", sentence);
    }

    private void quote(String part, String sentence) {
        due.holds(quoted + " has no checks", checks > 0);
        quoted = part + " \"" + sentence + "\"";
        checks = 0;
        StringBuilder text = unquoted.get(part);
        int at = text == null ? -1 : text.indexOf(sentence);
        due.holds(quoted + " doesn't stand there, or is quoted already", at >= 0);
        if (at >= 0) {
            text.replace(at, at + sentence.length(), " ");
        }
    }

    void is(long got, long want) {
        checks++;
        due.is(got == want ? quoted : quoted + line(), got, want);
    }

    void holds(String what, boolean so) {
        checks++;
        due.holds(so ? what : quoted + line() + ": " + what, so);
    }

    /** Where in the tests the check stands. */
    private static String line() {
        return STACK.walk(frames -> frames
            .filter(f -> f.getClassName().endsWith("Sentences") && !f.getClassName().equals("Sentences"))
            .findFirst()
            .map(f -> " (" + f.getFileName() + ":" + f.getLineNumber() + ")")
            .orElse(""));
    }

    void end() {
        due.holds(quoted + " has no checks", checks > 0);
        unquoted.forEach((part, text) ->
            due.holds(part + ": no test of \"" + text + "\"", !text.toString().matches("(?s).*\\w.*")));
    }
}
