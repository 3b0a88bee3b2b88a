import java.util.ArrayList;
import java.util.Arrays;
import java.util.List;
import java.util.regex.Matcher;
import java.util.regex.Pattern;

/** A method of the face as the document shows it. */
record Call(String type, String name, List<String> types, List<String> parameters, List<String> thrown) {
    private static final Pattern METHOD
        = Pattern.compile("\n    public (\\w+) (\\w+)\\(([^)]*)\\)(?: throws ([\\w, ]+))?;");

    static List<Call> allOf(String document) {
        List<Call> all = new ArrayList<>();
        Matcher matcher = METHOD.matcher(document);
        while (matcher.find()) {
            List<String> given = parts(matcher.group(3));
            all.add(new Call(matcher.group(1), matcher.group(2), given.stream().map(p -> p.split(" ")[0]).toList(),
                given.stream().map(p -> p.split(" ")[1]).toList(), parts(matcher.group(4))));
        }
        return all;
    }

    private static List<String> parts(String list) {
        return list == null || list.isEmpty() ? List.of() : Arrays.asList(list.split(", "));
    }
}
