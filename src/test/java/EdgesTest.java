import java.io.IOException;
import java.lang.reflect.InvocationTargetException;
import java.lang.reflect.Method;
import java.lang.reflect.Modifier;
import java.util.ArrayList;
import java.util.Arrays;
import java.util.Comparator;
import java.util.List;
import java.util.stream.Collectors;

/** Runs each test of a boundary case by itself, and sees that each such clause of the document has one. */
final class EdgesTest {
    private static final List<Class<?>> CASES = List.of(EdgesOfTerms.class, EdgesOfChanges.class,
        EdgesOfReading.class, EdgesOfTexts.class, EdgesOfLines.class, EdgesOfPast.class);

    private EdgesTest() {
    }

    public static void main(String[] args) throws IOException {
        Document document = Document.read();
        List<Edge> edges = new ArrayList<>();
        for (Class<?> cases : CASES) {
            for (Method method : methodsOf(cases)) {
                Edge edge = method.getAnnotation(Edge.class);
                if (edge != null) {
                    Check.begin("promise " + promisesOf(edge) + ", " + nameOf(method));
                    Check.that("quoted as the document says it: " + edge.says(), isQuoted(document, edge));
                    run(method);
                    edges.add(edge);
                } else {
                    Check.begin(nameOf(method));
                    Check.that("it names its promise", Modifier.isPrivate(method.getModifiers()));
                }
            }
        }
        eachClauseIsTested(document, edges);
        System.out.println(edges.size() + " boundary cases");
        Check.end("EdgesTest");
    }

    private static Method[] methodsOf(Class<?> cases) {
        Method[] methods = cases.getDeclaredMethods();
        Arrays.sort(methods, Comparator.comparing(Method::getName));
        return methods;
    }

    private static String nameOf(Method method) {
        return method.getDeclaringClass().getName() + "." + method.getName();
    }

    private static void eachClauseIsTested(Document document, List<Edge> edges) {
        Check.begin("the document");
        Check.that("it has promises", document.promises() > 0);
        for (int part = 0; part <= document.promises(); part++) {
            for (String clause : document.edges(part)) {
                Check.that("promise " + part + " has a test of: " + clause, isTested(part, clause, edges));
            }
        }
    }

    private static String promisesOf(Edge edge) {
        return Arrays.stream(edge.promise()).mapToObj(String::valueOf).collect(Collectors.joining(", "));
    }

    private static void run(Method method) {
        try {
            method.invoke(null);
        } catch (InvocationTargetException e) {
            Check.that("it ends, without " + e.getCause(), false);
        } catch (IllegalAccessException e) {
            Check.that("it can be called", false);
        }
    }

    private static boolean isQuoted(Document document, Edge edge) {
        return document.says(Document.TERMS, edge.says())
            || Arrays.stream(edge.promise()).allMatch(promise -> document.says(promise, edge.says()));
    }

    private static boolean isTested(int part, String clause, List<Edge> edges) {
        return edges.stream().filter(edge -> part == Document.TERMS || hasPromise(edge, part))
            .map(edge -> Document.plain(edge.says())).anyMatch(says -> says.contains(clause) || clause.contains(says));
    }

    private static boolean hasPromise(Edge edge, int promise) {
        return Arrays.stream(edge.promise()).anyMatch(one -> one == promise);
    }
}
