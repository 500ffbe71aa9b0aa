import java.lang.reflect.Method;
import java.nio.file.Files;
import java.nio.file.Path;
import java.util.HashMap;
import java.util.Map;
import java.util.regex.Matcher;
import java.util.regex.Pattern;

/** The example in README.md: each of its lines is called, and must answer what stands behind it. */
public final class ReadmeExample extends Sentences {
    private static final String MAKING = "OrreryWorks works = new OrreryWorks();";
    private static final Pattern CALL = Pattern.compile("(?:int (\\w+) = )?works\\.(\\w+)\\((.*)\\); *// (-?\\w+): .*");
    private static final Pattern BITS = Pattern.compile("Double\\.doubleToLongBits\\((.*)\\)");
    private static final Map<String, Long> NAMED = new HashMap<>();

    public static void main(String[] args) throws Exception {
        String readme = Files.readString(Path.of("README.md"));
        int from = readme.indexOf("```java\n");
        int to = readme.indexOf("```\n", from + 1);
        sentence("README.md says how to use the class", () -> due("whether there is an example", from >= 0 && to > from ? 1 : 0, 1));
        if (from >= 0 && to > from) tryAll(readme.substring(from, to).split("\n"));
        end();
    }

    /** Line 0 only opens the example. */
    private static void tryAll(String[] lines) {
        sentence("README.md: the object is made", () -> due("whether it is", lines.length > 2 && lines[1].equals(MAKING) ? 1 : 0, 1));
        OrreryWorks works = new OrreryWorks();
        for (int i = 2; i < lines.length; i++) {
            String line = lines[i];
            sentence("README.md: " + line, () -> tryOne(works, line));
        }
    }

    private static void tryOne(OrreryWorks works, String line) {
        Matcher m = CALL.matcher(line);
        if (!m.matches()) throw new IllegalArgumentException("no call with an answer behind it");
        long answer = answerOf(works, m.group(2), m.group(3).isEmpty() ? new String[0] : m.group(3).split(", "));
        if (m.group(1) != null) NAMED.put(m.group(1), answer);
        due(m.group(2), answer, valueOf(m.group(4)));
    }

    private static long answerOf(OrreryWorks works, String name, String[] args) {
        for (Method method : OrreryWorks.class.getMethods()) {
            Class<?>[] types = method.getParameterTypes();
            if (!method.getName().equals(name) || types.length != args.length) continue;
            Object[] values = new Object[args.length];
            for (int i = 0; i < args.length; i++) values[i] = types[i] == int.class ? (Object) (int) valueOf(args[i]) : (Object) valueOf(args[i]);
            try {
                return ((Number) method.invoke(works, values)).longValue();
            } catch (ReflectiveOperationException thrown) {
                throw new IllegalStateException(thrown);
            }
        }
        throw new IllegalArgumentException("no such call");
    }

    private static long valueOf(String word) {
        Matcher m = BITS.matcher(word);
        if (m.matches()) return bits(Double.parseDouble(m.group(1)));
        if (NAMED.containsKey(word)) return NAMED.get(word);
        try {
            if (Character.isUpperCase(word.charAt(0))) return OrreryWorks.class.getField(word.replace("OrreryWorks.", "")).getInt(null);
        } catch (ReflectiveOperationException thrown) {
            throw new IllegalArgumentException("no constant " + word);
        }
        return Long.parseLong(word);
    }
}
