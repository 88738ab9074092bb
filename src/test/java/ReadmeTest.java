import java.io.IOException;
import java.lang.reflect.Method;
import java.lang.reflect.Modifier;
import java.nio.file.Files;
import java.nio.file.Path;
import java.util.Set;
import java.util.TreeSet;
import java.util.regex.Matcher;
import java.util.regex.Pattern;

/** The example in README.md, call by call, so that it tells no answer that the class does not give. */
public final class ReadmeTest {
    private static final Pattern CALL = Pattern.compile("shelf\\.(\\w+)\\(([^)]*)\\);\\s+// answers (\\w+).*");

    private static final Checks checks = new Checks();

    public static void main(String[] args) throws IOException, ReflectiveOperationException {
        checks.topic("README.md");
        TupleShelf shelf = new TupleShelf();
        Set<String> called = new TreeSet<>();
        for (String line : Files.readAllLines(Path.of("README.md"))) {
            Matcher call = CALL.matcher(line);
            boolean isCall = call.matches();
            checks.due("a call has its answer: " + line, line.startsWith("shelf."), isCall);
            if (isCall) {
                called.add(call.group(1));
                checks.due(line, plain(call.group(3)), answer(shelf, call.group(1), call.group(2)));
            }
        }
        checks.due("every call of the face is shown", face().toString(), called.toString());
        checks.finish();
    }

    private static Set<String> face() {
        Set<String> names = new TreeSet<>();
        for (Method m : TupleShelf.class.getDeclaredMethods()) {
            if (Modifier.isPublic(m.getModifiers())) {
                names.add(m.getName());
            }
        }
        return names;
    }

    private static String answer(TupleShelf shelf, String name, String arguments)
            throws ReflectiveOperationException {
        String[] texts = arguments.split(", ");
        Class<?>[] types = new Class<?>[texts.length];
        Object[] values = new Object[texts.length];
        for (int i = 0; i < texts.length; i++) {
            types[i] = int.class;
            values[i] = Integer.decode(texts[i]);
        }
        return String.valueOf(TupleShelf.class.getMethod(name, types).invoke(shelf, values));
    }

    // Numbers are told in hexadecimal where they are tuples.
    private static String plain(String told) {
        return told.equals("true") || told.equals("false") ? told : Integer.decode(told).toString();
    }
}
