import java.io.IOException;
import java.lang.reflect.Method;
import java.util.ArrayList;
import java.util.List;

/** That the tests of cases quote the document, and that no word of what it promises is left without one. */
public final class EdgesListTest {
    private static final Class<?>[] TESTS = {SentencesTest.class, TermsEdgesTest.class, MapEdgesTest.class,
        RowEdgesTest.class, HeapEdgesTest.class, AllEdgesTest.class, SoundTest.class};
    private static final int PROMISES = 33;
    /** What needs no test of its own: the first is asked of every act, the second promises nothing. */
    private static final String[] NOT_QUOTED = {": its number.",
        "after it has been made; what later calls answer is free"};
    private static final Due due = new Due();

    public static void main(String[] args) throws IOException {
        List<Edge> edges = new ArrayList<>();
        for (Class<?> test : TESTS) {
            for (Method each : Edges.casesOf(test)) {
                edges.add(each.getAnnotation(Edge.class));
            }
        }
        for (Edge edge : edges) {
            due.is("promise " + edge.promise() + " says \"" + edge.says() + "\"",
                    wordsToQuote(edge.promise()).contains(edge.says()), true);
        }
        for (int promise = 0; promise <= PROMISES; promise++) {
            List<String> quotes = quotesOf(promise, edges);
            due.is("there are cases of promise " + promise, quotes.isEmpty(), false);
            eachCodeIsQuoted(promise, quotes);
            eachWordIsQuoted(promise, quotes);
        }
        due.is("there is no promise behind the last", Edges.wordsOf(PROMISES + 1).isEmpty(), true);
        System.out.println(edges.size() + " cases");
        due.end();
    }

    /** Without headings and calls, which FaceTest looks at, and without how the interface is headed. */
    private static String wordsToQuote(int promise) throws IOException {
        if (promise > 0) {
            return Edges.toldOf(promise);
        }
        return Edges.wordsOf(0).replaceAll("(?s)```.*?```", "").replaceAll("(?m)^(#|Ahead of the calls).*$", "");
    }

    private static List<String> quotesOf(int promise, List<Edge> edges) {
        List<String> quotes = new ArrayList<>();
        for (Edge edge : edges) {
            if (edge.promise() == promise) {
                quotes.add(edge.says());
            }
        }
        return quotes;
    }

    private static void eachCodeIsQuoted(int promise, List<String> quotes) throws IOException {
        String all = String.join("\n", quotes);
        for (String code : Edges.codesOf(promise)) {
            due.is("promise " + promise + " has a case of " + code, all.contains(code), true);
        }
    }

    private static void eachWordIsQuoted(int promise, List<String> quotes) throws IOException {
        String words = wordsToQuote(promise);
        StringBuilder left = new StringBuilder(words);
        List<String> all = new ArrayList<>(quotes);
        all.addAll(List.of(NOT_QUOTED));
        for (String quote : all) {
            for (int at = words.indexOf(quote); at >= 0; at = words.indexOf(quote, at + 1)) {
                left.replace(at, at + quote.length(), "_".repeat(quote.length()));
            }
        }
        String rest = left.toString().replaceAll("[_\\s.,:;()]+", " ").strip();
        due.is("promise " + promise + " without the words \"" + rest + "\" is quoted", rest.isEmpty(), true);
    }
}
