import java.io.IOException;
import java.lang.reflect.Method;
import java.util.ArrayList;
import java.util.List;
import java.util.Set;
import java.util.TreeSet;
import java.util.regex.Matcher;
import java.util.regex.Pattern;

/** That the tests of boundary cases quote the document, and that each promise and each code has one. */
public final class EdgesListTest {
    private static final Class<?>[] TESTS = {TermsEdgesTest.class, MapEdgesTest.class, RowEdgesTest.class,
        HeapEdgesTest.class, AllEdgesTest.class};
    private static final int PROMISES = 33;
    private static final Pattern CODE = Pattern.compile("-[1-4]|[A-Z][A-Za-z]*Exception|false|False");
    private static final Due due = new Due();

    public static void main(String[] args) throws IOException {
        List<Edge> edges = new ArrayList<>();
        for (Class<?> test : TESTS) {
            for (Method each : Edges.casesOf(test)) {
                edges.add(each.getAnnotation(Edge.class));
            }
        }
        for (Edge edge : edges) {
            due.is("promise " + edge.promise() + " says \"" + edge.says() + "\"",
                    Edges.wordsOf(edge.promise()).contains(edge.says()), true);
        }
        for (int promise = 0; promise <= PROMISES; promise++) {
            eachCodeIsQuoted(promise, edges);
        }
        due.is("there is no promise behind the last", Edges.wordsOf(PROMISES + 1).isEmpty(), true);
        System.out.println(edges.size() + " boundary cases");
        due.end();
    }

    private static Set<String> codesIn(String words) {
        Set<String> codes = new TreeSet<>();
        Matcher found = CODE.matcher(words);
        while (found.find()) {
            codes.add(found.group());
        }
        return codes;
    }

    /** The codes that stand among the terms are tested with the calls that tell them. */
    private static void eachCodeIsQuoted(int promise, List<Edge> edges) throws IOException {
        StringBuilder quoted = new StringBuilder();
        for (Edge edge : edges) {
            if (edge.promise() == promise) {
                quoted.append(edge.says()).append('\n');
            }
        }
        due.is("there are edges of promise " + promise, quoted.length() > 0, true);
        String words = Edges.wordsOf(promise);
        String told = promise == 0 ? "" : words.substring(words.indexOf("`:") + 2).split("\n## ")[0];
        for (String code : codesIn(told)) {
            due.is("promise " + promise + " has an edge of " + code, codesIn(quoted.toString()).contains(code), true);
        }
    }
}
