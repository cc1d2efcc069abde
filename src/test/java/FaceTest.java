import java.io.IOException;
import java.lang.reflect.Constructor;
import java.lang.reflect.Field;
import java.lang.reflect.Method;
import java.lang.reflect.Modifier;
import java.nio.file.Files;
import java.nio.file.Path;
import java.util.Set;
import java.util.TreeSet;
import java.util.regex.Matcher;
import java.util.regex.Pattern;

/** The document's face, no more and no less, and what LANGUAGE.md rules out, as far as it can be seen. */
public final class FaceTest {
    private static final Path SOURCE = Path.of("src/main/java/SignedClouds.java");
    private static final String FACE = "NONE BAD STATE FULL row/3 set/3 copy/5 drop/1 feed/1 sky/0 fault/0 undo/0 days/1 "
            + "wind/1 tow/2 silk/1 sign/2 cloud/2 field/2 ahead/3 over/2 falls/2 dry/1 first/1 gone/1 storm/2 blue/1 "
            + "leastTow/3 harvest/2 who/5 places/5 from/2 alike/1 likeness/2 estate/1 seen/3 drawn/3 image/1 restore/1 "
            + "kind/1 as/2 ask/2 trace/1 count/1 status/0";
    private static final String[] RULED_OUT = {"throw", "try", "catch", "synchronized", "assert", "import", "package",
        "->", "::", "\\.equals", "hashCode", "toString", "Exact\\(", "\\bvar\\b", "double", "float", "System\\.(?!arraycopy)",
        "Random", "Thread", "protected"};

    private static int wrong;

    public static void main(String[] args) throws IOException {
        constants();
        face();
        language();
        System.out.println(wrong + " wrong");
        if (wrong != 0) {
            System.exit(1);
        }
    }

    private static void wrongIf(boolean is, String what) {
        if (is) {
            wrong++;
            System.out.println(what);
        }
    }

    private static void constants() {
        wrongIf(SignedClouds.NONE != -1000000, "NONE");
        wrongIf(SignedClouds.BAD != -1000001, "BAD");
        wrongIf(SignedClouds.STATE != -1000002, "STATE");
        wrongIf(SignedClouds.FULL != -1000003, "FULL");
        for (Field f : SignedClouds.class.getDeclaredFields()) {
            boolean open = !Modifier.isPrivate(f.getModifiers());
            int due = Modifier.PUBLIC | Modifier.STATIC | Modifier.FINAL;
            wrongIf(open && (f.getModifiers() != due || f.getType() != int.class), "no constant: " + f);
        }
    }

    private static void face() {
        Set<String> there = new TreeSet<>();
        Set<String> names = new TreeSet<>();
        for (Field f : SignedClouds.class.getDeclaredFields()) {
            if (!Modifier.isPrivate(f.getModifiers())) {
                there.add(f.getName());
            }
        }
        for (Method m : SignedClouds.class.getDeclaredMethods()) {
            if (!Modifier.isPrivate(m.getModifiers())) {
                there.add(m.getName() + "/" + m.getParameterCount());
                names.add(m.getName());
                boolean isLong = m.getReturnType() == long.class;
                wrongIf(isLong != m.getName().equals("seen"), "answers another type: " + m);
                wrongIf(m.getModifiers() != Modifier.PUBLIC, "is not public alone: " + m);
            }
        }
        wrongIf(!there.equals(new TreeSet<>(Set.of(FACE.split(" ")))), "the face is another: " + there);
        wrongIf(!Modifier.isFinal(SignedClouds.class.getModifiers()), "the class is not final");
        Constructor<?>[] made = SignedClouds.class.getDeclaredConstructors();
        wrongIf(made.length != 1 || made[0].getParameterCount() != 0, "the constructors are others");
        wrongIf(SignedClouds.class.getDeclaredClasses().length > 11, "too many classes");
        for (Class<?> inside : SignedClouds.class.getDeclaredClasses()) {
            wrongIf(!Modifier.isStatic(inside.getModifiers()), "not static: " + inside);
            wrongIf(inside.getDeclaredFields().length > 25, "too many fields: " + inside);
            for (Method m : inside.getDeclaredMethods()) {
                wrongIf(names.contains(m.getName()), "bears the name of a public one: " + m);
                wrongIf(m.getParameterCount() > 7, "too many parameters: " + m);
            }
        }
        for (Method m : SignedClouds.class.getDeclaredMethods()) {
            wrongIf(Modifier.isPrivate(m.getModifiers()) && names.contains(m.getName()), "private and public: " + m);
        }
    }

    private static void language() throws IOException {
        String source = Files.readString(SOURCE);
        String bare = source.replaceAll("(?s)/\\*.*?\\*/", " ").replaceAll("//[^\\n]*", " ");
        for (String word : RULED_OUT) {
            Matcher m = Pattern.compile(word.matches("[a-z]+") ? "\\b" + word + "\\b" : word).matcher(bare);
            wrongIf(m.find(), "LANGUAGE.md rules out: " + word);
        }
        int longest = 0;
        int open = 0;
        String[] lines = source.split("\n");
        for (int i = 0; i < lines.length; i++) {
            if (lines[i].matches(" {4,8}\\S.*\\) \\{")) {
                open = i;
            }
            if (lines[i].matches(" {4,8}\\}")) {
                longest = Math.max(longest, i - open);
            }
        }
        wrongIf(longest > 60, "a method of " + longest + " lines");
    }
}
