import java.io.IOException;
import java.nio.file.Files;
import java.nio.file.Path;
import java.util.ArrayList;
import java.util.List;
import java.util.function.Consumer;
import java.util.function.Supplier;

/**
 * A walk through ../shared/DOC.md: each heading and each sentence, cut at its semicolons, is quoted
 * in its turn and tested behind its quote. One that is skipped, changed or left without a check is wrong.
 */
abstract class Reading {
    private static final List<String> LINES = new ArrayList<>();
    private static int next = 0;
    private static String said = "";
    private static int checks = 1;
    private static boolean isInTurn = true;

    /** Takes the document from one heading up to another one, that not included, or to its end. */
    static void read(String[] args, String from, String to) throws IOException {
        Path root = Path.of(args.length > 0 ? args[0] : ".");
        String document = Files.readString(root.resolve("../shared/DOC.md")).replaceAll("(?s)```.*?```", "");
        boolean isIn = false;
        for (String line : document.split("\n")) {
            String text = line.strip();
            isIn = (isIn || text.equals(from)) && !text.equals(to);
            if (isIn && !text.isEmpty()) cut(text);
        }
        Checks.is("there is something to read", LINES.isEmpty(), false);
    }

    /** A word that leads a paragraph of the terms, as 'Time.', stays with the sentence behind it. */
    private static void cut(String text) {
        // The face's signature ahead of what a promise says is read by FaceTest.
        String said = text.replaceFirst("^`[^`]*\\)[^`]*`: ", "");
        String lead = said.matches("[A-Z][a-z ]{3,15}\\. .*") ? said.substring(0, said.indexOf(' ', said.indexOf('.'))) + " " : "";
        for (String part : said.substring(lead.length()).split("(?<=[.;]) ")) {
            LINES.add(lead + part);
            lead = "";
        }
    }

    static void section(String heading) {
        quote(heading);
        checks = 1;
    }

    static void says(String quote) {
        quote(quote);
        checks = 0;
    }

    /** What the document leaves free cannot be tested. */
    static void free(String quote) {
        quote(quote);
        checks = 1;
    }

    private static void quote(String quote) {
        Checks.is("a check behind " + said, checks > 0, true);
        String due = next < LINES.size() ? LINES.get(next) : "nothing more";
        if (isInTurn) Checks.is("the quote in its turn", quote, due);
        // Behind one that is out of turn all others are.
        isInTurn = isInTurn && quote.equals(due);
        next++;
        said = quote;
    }

    static void is(Object got, Object due) {
        checks++;
        Checks.is("'" + said + "', check " + checks, got, due);
    }

    /** The call throws this, and nothing else is changed by it. */
    static void refuses(Supplier<FairCircuit> world, Class<?> due, Consumer<FairCircuit> call) {
        checks++;
        Checks.refuses("'" + said + "', check " + checks, world, due, call);
    }

    static void end(String name) {
        Checks.is("a check behind " + said, checks > 0, true);
        Checks.is("sentences quoted", next, LINES.size());
        Checks.end(name);
    }
}
