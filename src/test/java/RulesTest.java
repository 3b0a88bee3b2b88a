import java.io.IOException;
import java.lang.management.ManagementFactory;
import java.lang.reflect.Field;
import java.lang.reflect.Method;
import java.lang.reflect.Modifier;
import java.nio.charset.StandardCharsets;
import java.nio.file.Files;
import java.nio.file.Path;
import java.util.ArrayList;
import java.util.Arrays;
import java.util.List;
import java.util.Set;
import java.util.TreeSet;
import java.util.regex.Matcher;
import java.util.regex.Pattern;
import java.util.stream.Collectors;

/** The face that the document shows, and what of the rules of LANGUAGE.md can be seen from outside. */
final class RulesTest {
    private static final Path SOURCE = Path.of("src/main/java/AbbeyLedgers.java");
    private static final int CALLS = 512;

    public static void main(String[] args) throws IOException {
        String source = Files.readString(SOURCE, StandardCharsets.UTF_8);
        face(Document.text());
        members();
        words(source);
        exceptions(source);
        lengths(source);
        room();
        Check.end("RulesTest");
    }

    private static void face(String document) {
        Set<String> due = new TreeSet<>();
        for (Call call : Call.allOf(document)) {
            due.add(call.type() + " " + call.name() + "(" + String.join(",", call.types()) + ") "
                + String.join(",", call.thrown()));
        }
        Set<String> found = new TreeSet<>();
        for (Method m : AbbeyLedgers.class.getDeclaredMethods()) {
            if (!Modifier.isPrivate(m.getModifiers())) {
                Check.that(m + " is public and no more", m.getModifiers() == Modifier.PUBLIC);
                found.add(m.getReturnType().getSimpleName() + " " + m.getName() + "(" + names(m.getParameterTypes())
                    + ") " + names(m.getExceptionTypes()));
            }
        }
        Check.same("methods of the document", due.size(), 37);
        Check.same("the face", found.toString(), due.toString());
        Check.same("constructors", AbbeyLedgers.class.getDeclaredConstructors().length, 1);
        Check.same("of the class", AbbeyLedgers.class.getModifiers(), Modifier.PUBLIC | Modifier.FINAL);
    }

    private static String names(Class<?>[] types) {
        return Arrays.stream(types).map(Class::getSimpleName).collect(Collectors.joining(","));
    }

    private static void members() {
        Set<String> face = new TreeSet<>();
        for (Method m : AbbeyLedgers.class.getMethods()) {
            face.add(m.getName());
        }
        for (Field f : AbbeyLedgers.class.getDeclaredFields()) {
            Check.that(f + " is private", Modifier.isPrivate(f.getModifiers()));
        }
        List<Class<?>> classes = new ArrayList<>(List.of(AbbeyLedgers.class.getDeclaredClasses()));
        Check.that("at most twelve classes", classes.size() < 12);
        for (Class<?> inside : classes) {
            Check.that(inside + " is private and static", Modifier.isPrivate(inside.getModifiers())
                && Modifier.isStatic(inside.getModifiers()));
        }
        classes.add(AbbeyLedgers.class);
        for (Class<?> one : classes) {
            int fields = 0;
            for (Field f : one.getDeclaredFields()) {
                boolean isStatic = Modifier.isStatic(f.getModifiers());
                fields += isStatic ? 0 : 1;
                Check.that(f + " is no static state", !isStatic || Modifier.isFinal(f.getModifiers()));
            }
            Check.that(one + " has few fields", fields <= 20);
            for (Method m : one.getDeclaredMethods()) {
                Check.that(m + " has few parameters", m.getParameterCount() <= 7);
                boolean isOfFace = one == AbbeyLedgers.class && Modifier.isPublic(m.getModifiers());
                Check.that(m + " has a name of its own", isOfFace || !face.contains(m.getName()));
            }
        }
    }

    private static void words(String source) {
        Check.that("only the signs 1 to 127", source.chars().allMatch(c -> c >= 1 && c <= 127));
        String[] none = {"->", "::", "\\bpackage\\b", "\\bcatch\\b", "\\bfinally\\b", "\\btry\\b",
            "\\bsynchronized\\b", "\\bassert\\b", "Exact\\(", "java\\.lang", "System\\.(?!arraycopy)",
            "static \\{", "\\bRandom\\b", "\\bThread\\b", "\\bequals\\(", "\\bhashCode\\b", "\\btoString\\b",
            "\" \\+", "\\+ \"", "\\bprotected\\b"};
        for (String word : none) {
            Check.that("no " + word, !Pattern.compile(word).matcher(source).find());
        }
        Matcher imports = Pattern.compile("import ([^;]+);").matcher(source);
        while (imports.find()) {
            Check.same("import", imports.group(1), "java.util.NoSuchElementException");
        }
    }

    private static void exceptions(String source) {
        Set<String> own = Set.of("IllegalStateException", "IllegalArgumentException", "IndexOutOfBoundsException",
            "UnsupportedOperationException", "NoSuchElementException");
        Matcher matcher = Pattern.compile("throw ([^;]+);").matcher(source);
        while (matcher.find()) {
            Matcher made = Pattern.compile("new (\\w+)\\(\"[^\"]*\"\\)").matcher(matcher.group(1));
            Check.that(matcher.group(), made.matches() && own.contains(made.group(1)));
        }
    }

    private static void lengths(String source) {
        int start = -1;
        String[] lines = source.split("\n");
        for (int i = 0; i < lines.length; i++) {
            String line = lines[i];
            String indent = line.substring(0, line.length() - line.stripLeading().length());
            if (line.endsWith("{") && line.contains("(") && indent.length() <= 8) {
                start = i;
            }
            if (line.equals(indent + "}") && indent.length() <= 8 && start >= 0) {
                Check.that("the method at the line " + (start + 1) + " is short", i - start < 60);
                start = -1;
            }
            Check.that("the line " + (i + 1) + " is short", line.length() <= 120);
        }
    }

    // Refused calls are left out: what they make is the exception, which the document wants.
    private static void room() {
        AbbeyLedgers x = Samples.full();
        x.save();
        small("sum", () -> x.sum(39, 1, 14));
        small("sumAgain", () -> x.sumAgain(39, 1, 14));
        small("most", () -> x.most(39, 0, 15));
        small("reached", () -> x.reached(39, 39));
        small("versionOf", () -> x.versionOf(39, 5));
        small("had", () -> x.had(0, 99));
        small("since", () -> x.since(39, 15));
        small("common", () -> x.common(39, 0));
        small("shared", () -> x.shared(39, 38));
        small("users", () -> x.users(39, 30));
        small("alike", () -> x.alike(39));
        small("richest", () -> x.richest(39));
        small("busiest", () -> x.busiest());
        small("line", () -> x.line(39));
        small("lineage", () -> x.lineage(39));
        small("spared", () -> x.spared());
        small("account", () -> x.account(4));
        small("fork, back and restore", () -> {
            x.fork(1, 0);
            x.back(0, 39);
            x.restore();
        });
        AbbeyLedgers z = new AbbeyLedgers();
        small("changes, save and undo", () -> {
            z.write(0, 15, 999);
            z.graft(1, 1, 8, 15);
            z.pass(1);
            z.save();
            z.undo();
            z.undo();
            z.undo();
        });
        small("commands", () -> {
            Samples.fill(z, "w0/1=1;f3<0;b0*1;g2/1:0-9;y9");
            z.commands();
            z.undo();
        });
    }

    private static void small(String what, Runnable call) {
        call.run();
        var threads = (com.sun.management.ThreadMXBean) ManagementFactory.getThreadMXBean();
        long id = Thread.currentThread().getId();
        long before = threads.getThreadAllocatedBytes(id);
        for (int i = 0; i < CALLS; i++) {
            call.run();
        }
        long made = threads.getThreadAllocatedBytes(id) - before;
        Check.that(CALLS + " times " + what + " made " + made + " bytes", made < 20 * CALLS);
    }
}
