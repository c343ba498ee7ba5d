import java.io.PrintWriter;
import java.io.StringWriter;
import java.util.ArrayList;
import java.util.HashSet;
import java.util.List;
import java.util.Map;
import java.util.Optional;
import java.util.Set;
import java.util.TreeMap;
import java.util.TreeSet;
import java.util.regex.Matcher;
import java.util.regex.Pattern;
import java.util.spi.ToolProvider;

/** Calls that are no recursion go at most eight deep (LANGUAGE.md, rule 11): counted in the class files. */
final class DepthTest {
    private static final int MOST = 8;
    private static final Pattern CLASS = Pattern.compile("^(?:\\w+ )*class ([\\w$]+)");
    private static final Pattern METHOD = Pattern.compile("^  (?:[\\w$\\[\\].]+ )*([\\w$.]+)\\(.*\\).*;$");
    private static final Pattern CALL = Pattern.compile("invoke\\w+ .*// (?:Interface)?Method ([\\w$/\"<>.]+):");

    private final Map<String, Set<String>> calls = new TreeMap<>();

    public static void main(String[] args) throws Exception {
        Check c = new Check("DepthTest");
        Optional<ToolProvider> javap = ToolProvider.findFirst("javap");
        if (javap.isEmpty()) {
            System.out.println("DepthTest: this Java has no javap, so that nothing is counted");
            return;
        }
        DepthTest test = new DepthTest();
        test.read(javap.get());
        c.is("methods were found", true, test.calls.size() > 150);
        for (String method : test.calls.keySet()) {
            if (method.startsWith("DryRiver.")) {
                List<String> path = test.deepest(method, new HashSet<>());
                c.is("how deep it goes: " + path, true, path.size() <= MOST);
            }
        }
        c.close();
    }

    private void read(ToolProvider javap) throws Exception {
        List<String> told = new ArrayList<>(List.of("-p", "-c", "-cp", System.getProperty("java.class.path"), "DryRiver"));
        for (Class<?> inside : DryRiver.class.getDeclaredClasses()) {
            told.add(inside.getName());
        }
        StringWriter text = new StringWriter();
        javap.run(new PrintWriter(text), new PrintWriter(System.err), told.toArray(new String[0]));
        String in = "";
        String method = "";
        for (String line : text.toString().split("\n")) {
            Matcher m = CLASS.matcher(line);
            if (m.find()) {
                in = m.group(1);
                continue;
            }
            m = METHOD.matcher(line);
            if (m.find()) {
                method = in + "." + (m.group(1).equals(in) ? "\"<init>\"" : m.group(1));
                calls.computeIfAbsent(method, key -> new TreeSet<>());
                continue;
            }
            m = CALL.matcher(line);
            if (m.find()) {
                String name = m.group(1).replaceAll("^/", "");
                calls.get(method).add(name.contains(".") ? name : in + "." + name);
            }
        }
    }

    /** What a call may be, as it is written in any class that has a method of that name below the one it is told by. */
    private Set<String> targets(String call) throws Exception {
        Set<String> all = new TreeSet<>();
        int dot = call.indexOf('.');
        String name = call.substring(dot);
        if (!call.startsWith("DryRiver")) {
            return all;
        }
        Class<?> of = Class.forName(call.substring(0, dot));
        for (String method : calls.keySet()) {
            if (method.endsWith(name) && method.length() - name.length() == method.indexOf('.')) {
                Class<?> other = Class.forName(method.substring(0, method.indexOf('.')));
                boolean below = !name.contains("<init>") && (of.isAssignableFrom(other) || other.isAssignableFrom(of));
                if (other == of || below && other != Object.class) {
                    all.add(method);
                }
            }
        }
        return all;
    }

    private List<String> deepest(String method, Set<String> open) throws Exception {
        List<String> best = new ArrayList<>();
        open.add(method);
        for (String call : calls.get(method)) {
            for (String target : targets(call)) {
                if (!open.contains(target)) {
                    List<String> path = deepest(target, open);
                    best = path.size() > best.size() ? path : best;
                }
            }
        }
        open.remove(method);
        List<String> all = new ArrayList<>(List.of(method.replace("DryRiver", "")));
        all.addAll(best);
        return all;
    }
}
