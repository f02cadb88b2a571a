import java.io.PrintWriter;
import java.io.StringWriter;
import java.nio.file.Files;
import java.nio.file.Path;
import java.util.ArrayList;
import java.util.HashMap;
import java.util.HashSet;
import java.util.List;
import java.util.Map;
import java.util.Set;
import java.util.TreeMap;
import java.util.regex.Matcher;
import java.util.regex.Pattern;
import java.util.spi.ToolProvider;

/** Rules 8 and 11 of LANGUAGE.md, read off the bytecode: how deep calls go, and which of them recur. */
public final class DepthTest {
    private static final int DEEPEST = 8;
    private static final Set<String> RECURSION = Set.of("BeardPass$Law.readWhole", "BeardPass$Law.readTest",
        "BeardPass$Law.readSum", "BeardPass$Law.readProduct", "BeardPass$Law.readPart");

    private static final Pattern CLASS = Pattern.compile("^(?:\\w+ )*class ([\\w$]+).*\\{");
    private static final Pattern METHOD = Pattern.compile("^  (?:[\\w$.\\[\\]]+ )*(?:([\\w$]+)\\(.*\\).*|\\{\\});");
    private static final Pattern CALL = Pattern.compile("// Method ([\\w$/.\"<>]+):");

    private static final Map<String, Set<String>> CALLS = new TreeMap<>();
    private static final Map<String, Integer> DEPTHS = new HashMap<>();

    public static void main(String[] args) throws Exception {
        ToolProvider javap = ToolProvider.findFirst("javap").orElse(null);
        if (javap == null) {
            System.out.println("DepthTest: nothing checked, this Java has no javap in it");
            return;
        }
        gather(disassembled(javap));
        Probe.same("methods were found", CALLS.size() > 80, true);
        Map<String, Set<String>> below = new HashMap<>();
        for (String method : CALLS.keySet()) {
            below.put(method, reached(method));
        }
        for (String method : CALLS.keySet()) {
            boolean recurs = below.get(method).contains(method);
            Probe.same(method + " recurs", recurs, RECURSION.contains(method));
            Probe.same(method + " is " + depth(method, below) + " deep", depth(method, below) <= DEEPEST, true);
        }
        Probe.end("DepthTest");
    }

    private static String disassembled(ToolProvider javap) throws Exception {
        Path classes = Path.of(BeardPass.class.getProtectionDomain().getCodeSource().getLocation().toURI());
        List<String> words = new ArrayList<>(List.of("-c", "-p"));
        try (var files = Files.list(classes)) {
            files.map(Path::toString).filter(name -> name.matches(".*BeardPass(\\$\\w+)?\\.class")).forEach(words::add);
        }
        StringWriter text = new StringWriter();
        PrintWriter out = new PrintWriter(text);
        javap.run(out, out, words.toArray(new String[0]));
        return text.toString();
    }

    private static void gather(String text) {
        String inside = "";
        String method = "";
        for (String line : text.split("\n")) {
            Matcher type = CLASS.matcher(line);
            Matcher head = METHOD.matcher(line);
            Matcher call = CALL.matcher(line);
            if (type.find()) {
                inside = type.group(1);
            } else if (head.find()) {
                String name = head.group(1) == null ? "<clinit>" : head.group(1);
                method = inside + "." + (name.equals(inside) ? "<init>" : name);
                CALLS.computeIfAbsent(method, unseen -> new HashSet<>());
            } else if (call.find()) {
                String called = call.group(1).replace("\"", "");
                String whole = called.contains(".") ? called : inside + "." + called;
                if (whole.startsWith("BeardPass")) {
                    CALLS.get(method).add(whole);
                }
            }
        }
    }

    private static Set<String> reached(String from) {
        Set<String> found = new HashSet<>();
        List<String> open = new ArrayList<>(CALLS.get(from));
        while (!open.isEmpty()) {
            String method = open.remove(open.size() - 1);
            if (found.add(method)) {
                open.addAll(CALLS.getOrDefault(method, Set.of()));
            }
        }
        return found;
    }

    /** The methods open at once at most, this one too; those that call one another count as one. */
    private static int depth(String method, Map<String, Set<String>> below) {
        Integer known = DEPTHS.get(method);
        if (known != null) {
            return known;
        }
        Set<String> ring = new HashSet<>(Set.of(method));
        for (String other : below.getOrDefault(method, Set.of())) {
            if (below.getOrDefault(other, Set.of()).contains(method)) {
                ring.add(other);
            }
        }
        int deepest = 0;
        for (String one : ring) {
            for (String called : CALLS.getOrDefault(one, Set.of())) {
                deepest = Math.max(deepest, ring.contains(called) ? 0 : depth(called, below));
            }
        }
        DEPTHS.put(method, deepest + 1);
        return deepest + 1;
    }
}
