import java.io.IOException;
import java.lang.reflect.Method;
import java.lang.reflect.Modifier;
import java.nio.file.Files;
import java.nio.file.Path;
import java.util.regex.Matcher;
import java.util.regex.Pattern;

/** README.md tells no wrong answer and leaves no call out. */
public final class ReadmeTest {
    private static final Pattern TEXT = Pattern.compile("\"([^\"]*)\"\\.toCharArray");
    private static final Pattern CALL = Pattern.compile("^x\\.(\\w+)\\(([^)]*)\\);(?: *// (-?\\d+):)?");
    private static final Checks c = new Checks();

    public static void main(String[] args) throws IOException, ReflectiveOperationException {
        String page = Files.readString(Path.of("README.md"));
        SignedClouds x = new SignedClouds();
        for (String line : page.split("\n")) {
            Matcher text = TEXT.matcher(line);
            if (text.find()) {
                text.group(1).chars().forEach(x::feed);
            }
            Matcher call = CALL.matcher(line);
            if (call.find()) {
                look(x, call);
            }
        }
        for (Method m : SignedClouds.class.getDeclaredMethods()) {
            if (Modifier.isPublic(m.getModifiers())) {
                c.due(m.getName() + " is named", page.contains("`" + m.getName() + "`") ? 1 : 0, 1);
            }
        }
        c.end();
    }

    private static void look(SignedClouds x, Matcher call) throws ReflectiveOperationException {
        String[] told = call.group(2).isEmpty() ? new String[0] : call.group(2).split(", *");
        Class<?>[] types = new Class<?>[told.length];
        Object[] numbers = new Object[told.length];
        for (int k = 0; k < told.length; k++) {
            types[k] = int.class;
            numbers[k] = Integer.valueOf(told[k]);
        }
        Object got = SignedClouds.class.getMethod(call.group(1), types).invoke(x, numbers);
        c.due(call.group(), call.group(3) == null ? 0 : 1, 1);
        if (call.group(3) != null) {
            c.due(call.group(), ((Number) got).longValue(), Long.parseLong(call.group(3)));
        }
    }
}
