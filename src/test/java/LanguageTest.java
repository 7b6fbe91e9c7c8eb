import java.io.DataInputStream;
import java.io.IOException;
import java.io.InputStream;
import java.lang.reflect.Executable;
import java.lang.reflect.Field;
import java.lang.reflect.Modifier;
import java.nio.file.Files;
import java.nio.file.Path;
import java.util.ArrayList;
import java.util.Arrays;
import java.util.List;
import java.util.Map;
import java.util.Set;
import java.util.regex.Matcher;
import java.util.regex.Pattern;

/** Those rules of LANGUAGE.md that can be seen from the class's text and from what it was compiled to. */
public final class LanguageTest {
    private static final Checks CHECK = new Checks();
    private static final Path SOURCE = Path.of("src/main/java/PapersDesk.java");
    private static final Pattern METHOD =
            Pattern.compile("^( +)(?!.*\\b(?:class|if|for|while|switch|else|return|new)\\b)[\\w <>\\[\\]]*\\w+\\(.*\\{$");
    private static final Map<String, Set<String>> LIBRARY = Map.of(
            "java/lang/Object", Set.of("<init>"),
            "java/lang/String", Set.of("length", "charAt", "isEmpty", "equals", "indexOf", "substring", "toCharArray"),
            "java/lang/Math", Set.of("max", "min", "abs", "floorDiv", "floorMod"),
            "java/lang/Integer", Set.of("compare", "max", "min", "bitCount"),
            "java/util/Arrays", Set.of("copyOf", "copyOfRange", "fill"),
            "java/util/ArrayList", Set.of("<init>", "add", "get", "set", "remove", "size", "isEmpty", "clear"),
            "java/util/NoSuchElementException", Set.of("<init>"));

    public static void main(String[] args) throws IOException {
        List<Class<?>> classes = new ArrayList<>(List.of(PapersDesk.class));
        classes.addAll(Arrays.asList(PapersDesk.class.getDeclaredClasses()));
        CHECK.part("rule 11");
        CHECK.yes("twelve classes at most", classes.size() <= 12);
        for (Class<?> one : classes) {
            fields(one);
            parameters(one);
            calls(one);
        }
        words();
        lengths();
        CHECK.end();
    }

    private static void fields(Class<?> one) {
        int own = 0;
        for (Field field : one.getDeclaredFields()) {
            if (Modifier.isStatic(field.getModifiers())) {
                CHECK.part("rule 5");
                boolean constant = field.getType().isPrimitive() || field.getType() == String.class;
                CHECK.yes(field + " is a constant", constant && Modifier.isFinal(field.getModifiers()));
            } else {
                own++;
            }
        }
        CHECK.part("rule 11");
        CHECK.yes(one + " has twenty fields at most", own <= 20);
    }

    private static void parameters(Class<?> one) {
        CHECK.part("rule 11");
        List<Executable> all = new ArrayList<>(Arrays.asList(one.getDeclaredMethods()));
        all.addAll(Arrays.asList(one.getDeclaredConstructors()));
        for (Executable method : all) {
            CHECK.yes(method + " has seven parameters at most", method.getParameterCount() <= 7);
        }
    }

    /** A class, a name with its type, or (called) a method of a class: the numbers of the constants that it is made of. */
    private record Link(boolean called, int first, int second) { }

    /** What a class calls stands in its constants; a join of texts by + or a lambda would stand there as a site. */
    private static void calls(Class<?> one) throws IOException {
        CHECK.part("rule 4");
        try (InputStream file = one.getResourceAsStream("/" + one.getName() + ".class")) {
            Object[] constants = constants(new DataInputStream(file));
            for (Object constant : constants) {
                if (constant instanceof Link call && call.called) {
                    String owner = nameOf(constants, call.first);
                    String name = nameOf(constants, call.second);
                    boolean known = owner.startsWith("PapersDesk")
                            || LIBRARY.getOrDefault(owner, Set.of()).contains(name);
                    CHECK.yes(one + " may call " + owner + "." + name, known);
                }
            }
        }
    }

    private static String nameOf(Object[] constants, int number) {
        return (String) constants[((Link) constants[number]).first];
    }

    /** The constants of a class file: texts and links; what tells nothing of calls is left null. */
    private static Object[] constants(DataInputStream in) throws IOException {
        in.readLong();
        Object[] constants = new Object[in.readUnsignedShort()];
        for (int i = 1; i < constants.length; i++) {
            int tag = in.readUnsignedByte();
            switch (tag) {
                case 1 -> constants[i] = in.readUTF();
                case 3, 4 -> in.readInt();
                case 5, 6 -> {
                    // These take two numbers.
                    in.readLong();
                    i++;
                }
                case 7 -> constants[i] = new Link(false, in.readUnsignedShort(), 0);
                case 8 -> in.readUnsignedShort();
                case 9, 12 -> constants[i] = new Link(false, in.readUnsignedShort(), in.readUnsignedShort());
                case 10, 11 -> constants[i] = new Link(true, in.readUnsignedShort(), in.readUnsignedShort());
                default -> throw new IOException("constant " + tag + ": a lambda, or texts joined by +");
            }
        }
        return constants;
    }

    /** The text without comments and without what stands in quotes. */
    private static String bare() throws IOException {
        return Files.readString(SOURCE).replaceAll("(?s)/\\*.*?\\*/", "").replaceAll("//.*", "")
                .replaceAll("\"[^\"\n]*\"", "\"\"").replaceAll("'[^'\n]+'", "0");
    }

    private static void words() throws IOException {
        CHECK.part("rules 2 to 10");
        String[] none = {"package", "finally", "synchronized", "assert", "native", "volatile", "double", "float", "var",
            "import static", "hashCode", "getMessage"};
        String text = bare();
        for (String word : none) {
            CHECK.no(word, Pattern.compile("\\b" + word + "\\b").matcher(text).find());
        }
        CHECK.no("a lambda or a method's name", text.contains("->") || text.contains("::"));
        CHECK.no("a static block", Pattern.compile("static\\s*\\{").matcher(text).find());
        CHECK.no("an array of arrays", text.contains("][") || text.contains("[][]"));
        CHECK.no("a sign above 127", Files.readString(SOURCE).chars().anyMatch(sign -> sign > 127));
        Matcher thrown = Pattern.compile("\\bthrow\\b(.*)").matcher(text);
        while (thrown.find()) {
            CHECK.yes("throw" + thrown.group(1), thrown.group(1).equals(" new NoSuchElementException(\"\");"));
        }
        CHECK.no("a catch", Pattern.compile("\\bcatch\\b").matcher(text).find());
    }

    private static void lengths() throws IOException {
        CHECK.part("rule 11");
        List<String> lines = Files.readAllLines(SOURCE);
        int methods = 0;
        for (int i = 0; i < lines.size(); i++) {
            Matcher method = METHOD.matcher(lines.get(i));
            if (method.find()) {
                String end = method.group(1) + "}";
                int last = i;
                while (last < lines.size() && !lines.get(last).equals(end)) {
                    last++;
                }
                methods++;
                CHECK.yes("sixty lines at most: " + lines.get(i).trim(), last - i <= 60);
            }
        }
        CHECK.yes("methods are found", methods > 60);
    }
}
