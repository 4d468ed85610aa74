import java.io.IOException;
import java.lang.reflect.Method;
import java.lang.reflect.Modifier;
import java.nio.file.Files;
import java.nio.file.Paths;
import java.util.regex.Matcher;
import java.util.regex.Pattern;

/** That README.md names each call of the face, and that its examples answer as it says; run from the project's folder. */
public final class ReadmeTest {
    private static final Pattern MADE = Pattern.compile("OtherSide \\w+ = new OtherSide\\(\\);");
    private static final Pattern CALL = Pattern.compile("\\w+\\.(\\w+)\\((.*?)\\); +// (-?\\d+)(?:: .*| \\.\\. .*)?");

    public static void main(String[] args) throws ReflectiveOperationException, IOException {
        String page = Files.readString(Paths.get("README.md"));
        Check.so("README.md is not empty", !page.isBlank());
        Check.so("README.md says how the tests are run", page.contains("`.ci/run`"));
        for (Method m : OtherSide.class.getDeclaredMethods()) {
            if (Modifier.isPublic(m.getModifiers())) {
                Check.so("README.md tells of " + m.getName(), page.contains("`" + m.getName() + "("));
            }
        }
        for (String constant : new String[] {"BAD", "NOT", "FULL", "STATE", "VOID"}) {
            Check.so("README.md tells of " + constant, page.contains("`" + constant + "`"));
        }
        int blocks = 0;
        Matcher m = Pattern.compile("(?s)```java\n(.*?)```").matcher(page);
        while (m.find()) {
            blocks++;
            block(m.group(1));
        }
        Check.so("README.md has examples", blocks > 0);
        Check.end("ReadmeTest");
    }

    private static void block(String lines) throws ReflectiveOperationException {
        OtherSide x = null;
        for (String line : lines.split("\n")) {
            Matcher call = CALL.matcher(line);
            if (MADE.matcher(line).matches()) {
                x = new OtherSide();
            } else if (x != null && call.matches()) {
                Check.due(line, answer(x, call.group(1), call.group(2)), Long.parseLong(call.group(3)));
            } else {
                Check.so("README.md: a call and its answer: " + line, false);
            }
        }
    }

    private static long answer(OtherSide x, String name, String told) throws ReflectiveOperationException {
        String[] values = told.isEmpty() ? new String[0] : told.split(",");
        for (Method m : OtherSide.class.getDeclaredMethods()) {
            Class<?>[] types = m.getParameterTypes();
            if (m.getName().equals(name) && types.length == values.length) {
                Object[] given = new Object[values.length];
                for (int i = 0; i < given.length; i++) {
                    long v = sum(values[i]);
                    given[i] = types[i] == long.class ? (Object) v : (Object) (int) v;
                }
                return ((Number) m.invoke(x, given)).longValue();
            }
        }
        Check.so("OtherSide has " + name + " of " + values.length, false);
        return 0;
    }

    /** Numbers, or a sign in quotes, joined by * and +. */
    private static long sum(String told) {
        long sum = 0;
        for (String products : told.trim().split(" \\+ ")) {
            long product = 1;
            for (String v : products.split(" \\* ")) {
                product *= v.matches("'.'") ? v.charAt(1) : Long.parseLong(v);
            }
            sum += product;
        }
        return sum;
    }
}
