import java.io.File;
import java.io.IOException;
import java.io.PrintWriter;
import java.io.StringWriter;
import java.nio.file.Files;
import java.nio.file.Path;
import java.util.ArrayList;
import java.util.HashMap;
import java.util.List;
import java.util.Map;
import java.util.Optional;
import java.util.Set;
import java.util.TreeMap;
import java.util.TreeSet;
import java.util.regex.Matcher;
import java.util.regex.Pattern;
import java.util.spi.ToolProvider;

/** What LANGUAGE.md asks of the code inside, read from the compiled class: javap tells what each method calls. */
public final class RulesTest {
    private static final int LONGEST = 60;
    private static final int DEEPEST = 8;
    private static final Set<String> LIBRARY = Set.of("java/lang/Object.<init>", "java/lang/Math.abs",
        "java/lang/Math.max", "java/lang/Math.min", "java/lang/Integer.bitCount", "java/lang/System.arraycopy",
        "java/util/Arrays.fill", "java/lang/StringBuilder.<init>", "java/lang/StringBuilder.append",
        "java/lang/StringBuilder.length", "java/lang/StringBuilder.setLength", "java/lang/StringBuilder.toString",
        "java/lang/IllegalArgumentException.<init>", "java/lang/IllegalStateException.<init>",
        "java/lang/IndexOutOfBoundsException.<init>");
    private static final Set<String> NEVER = Set.of("invokedynamic", "checkcast", "instanceof", "idiv", "ldiv",
        "lrem", "monitorenter", "multianewarray");
    private static final Pattern CLASS = Pattern.compile("^(?:[a-z]+ )*class (\\S+).*\\{$");
    private static final Pattern METHOD = Pattern.compile("^  (?! ).*?([\\w$.]+)\\(.*\\).*;$");
    private static final Pattern STEP = Pattern.compile("^ +\\d+: (\\w+)(.*)$");
    private static final Pattern CALLED = Pattern.compile("// (?:Interface)?Method ([^:]+):");

    private final Due due = new Due();
    private final Map<String, Set<String>> calls = new TreeMap<>();
    private final Map<String, Integer> depths = new HashMap<>();

    public static void main(String[] args) throws IOException {
        RulesTest test = new RulesTest();
        test.lengths(Files.readAllLines(Path.of("src/main/java/Skylinesheet.java")));
        Optional<ToolProvider> javap = ToolProvider.findFirst("javap");
        if (javap.isPresent()) {
            test.steps(test.listing(javap.get()));
            test.depths();
        } else {
            System.out.println("no javap here: what methods call is not looked at");
        }
        test.due.end();
    }

    private String listing(ToolProvider javap) {
        File place = new File(Skylinesheet.class.getProtectionDomain().getCodeSource().getLocation().getPath());
        List<String> words = new ArrayList<>(List.of("-p", "-c"));
        File[] files = place.listFiles((folder, name) -> name.matches("Skylinesheet(\\$.*)?\\.class"));
        for (File file : files == null ? new File[0] : files) {
            words.add(file.getPath());
        }
        StringWriter text = new StringWriter();
        PrintWriter out = new PrintWriter(text);
        due.is("javap", javap.run(out, out, words.toArray(new String[0])), 0);
        out.flush();
        return text.toString();
    }

    private void steps(String listing) {
        String type = "";
        String method = "";
        String before = "";
        for (String line : listing.split("\\R")) {
            Matcher head = CLASS.matcher(line);
            Matcher name = METHOD.matcher(line);
            Matcher step = STEP.matcher(line);
            if (head.matches()) {
                type = head.group(1);
            } else if (name.matches()) {
                method = type + "." + (name.group(1).equals(type) ? "<init>" : name.group(1));
                calls.putIfAbsent(method, new TreeSet<>());
            } else if (step.matches()) {
                step(type, method, before, step.group(1), step.group(2));
                before = step.group(1) + step.group(2);
            } else {
                due.is(method + " catches something", line.contains("Exception table"), false);
            }
        }
        due.is("methods were found", calls.size() > 100, true);
    }

    private void step(String type, String method, String before, String kind, String rest) {
        due.is(method + " has " + kind, NEVER.contains(kind), false);
        if (kind.equals("irem")) {
            due.is(method + " divides by a constant", before.matches("iconst_[1-5]|[bs]ipush +[1-9].*"), true);
        }
        if (kind.equals("new") && rest.contains("Exception") || kind.equals("athrow")) {
            due.is(method + " throws, a constructor", method.endsWith("<init>"), false);
        } else if (kind.equals("new") || kind.endsWith("newarray")) {
            due.is(method + " makes something outside a constructor", method.endsWith("<init>"), true);
        }
        Matcher called = CALLED.matcher(rest);
        if (kind.startsWith("invoke") && called.find()) {
            String name = called.group(1).replace("\"", "");
            String whole = name.contains(".") ? name : type + "." + name;
            calls.get(method).add(whole);
            due.is(method + " calls " + whole + ", which stands outside the library",
                !whole.startsWith("Skylinesheet") && !LIBRARY.contains(whole), false);
        }
    }

    private void depths() {
        for (String method : calls.keySet()) {
            due.is(method + " goes deeper than eight calls", depth(method, 1) > DEEPEST, false);
        }
    }

    /** How many calls stand open at once; beyond a hundred levels a method is one that calls itself. */
    private int depth(String method, int level) {
        if (level > 100) {
            return level;
        }
        Integer known = depths.get(method);
        if (known != null) {
            return known;
        }
        int deepest = 0;
        for (String called : calls.getOrDefault(method, Set.of())) {
            deepest = Math.max(deepest, depth(called, level + 1));
        }
        depths.put(method, deepest + 1);
        return deepest + 1;
    }

    /** A method goes from the line that opens it to the line that closes it with the same indent. */
    private void lengths(List<String> lines) {
        Pattern head = Pattern.compile("^( {4}| {8})(?:(?:public|private|static|final) )*[\\w\\[\\]]+ ?\\w*\\(.*");
        for (int first = 0; first < lines.size(); first++) {
            Matcher start = head.matcher(lines.get(first));
            if (start.matches() && !lines.get(first).endsWith(";")) {
                int last = first;
                while (last < lines.size() - 1 && !lines.get(last).equals(start.group(1) + "}")) {
                    last++;
                }
                due.is("the method at line " + (first + 1) + " is longer than " + LONGEST + " lines",
                    last - first + 1 > LONGEST, false);
            }
        }
    }
}
