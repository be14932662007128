import java.io.DataInputStream;
import java.io.IOException;
import java.lang.reflect.Constructor;
import java.lang.reflect.Field;
import java.lang.reflect.Method;
import java.lang.reflect.Modifier;
import java.nio.charset.StandardCharsets;
import java.nio.file.Files;
import java.nio.file.Path;
import java.util.Arrays;
import java.util.Set;
import java.util.TreeSet;
import java.util.regex.Matcher;
import java.util.regex.Pattern;

/** The class's face, and the rules of LANGUAGE.md that can be seen in the class or its source. */
public final class LanguageTest {
    private static final String[] FACE = {"int group(int,int)", "int feed(int,int,int,int,int)", "boolean end(int)", "int text(int)",
        "int fault(int)", "int partition(int,int)", "int of(int,int)", "int core(int,int)", "int hook(int,int,int)",
        "int classOf(int,int)", "int character(int,int)", "int modular(int,int)", "int projective(int,int)",
        "int decomposition(int,int)", "int cartan(int,int)", "int tableau(int,int,int,int)", "int gram(int,int,int)",
        "int block(int,int)", "long value(int,int)", "long parts(int,int,int)", "long inner(int,int)", "int kind(int,int)",
        "int cut(int,int,int)", "int look(int)"};
    private static final int MOST_LINES = 60;

    public static void main(String[] args) throws IOException {
        face();
        nestedClasses();
        String source = Files.readString(Path.of("src/main/java/PrimeBlocks.java"), StandardCharsets.UTF_8);
        words(plain(source));
        methodLengths(source);
        libraryCalls(PrimeBlocks.class);
        for (Class<?> nested : PrimeBlocks.class.getDeclaredClasses()) {
            libraryCalls(nested);
        }
        Check.finish();
    }

    private static void face() {
        Class<?> type = PrimeBlocks.class;
        Check.due("public and final", type.getModifiers(), Modifier.PUBLIC | Modifier.FINAL);
        Set<String> open = new TreeSet<>();
        Set<String> openNames = new TreeSet<>();
        for (Method method : type.getDeclaredMethods()) {
            if (!Modifier.isPrivate(method.getModifiers())) {
                StringBuilder text = new StringBuilder(method.getReturnType() + " " + method.getName() + "(");
                for (Class<?> parameter : method.getParameterTypes()) {
                    text.append(text.charAt(text.length() - 1) == '(' ? "" : ",").append(parameter);
                }
                open.add(text + ")");
                openNames.add(method.getName());
                Check.due(method + " is public", Modifier.isPublic(method.getModifiers()), true);
            }
        }
        Set<String> due = new TreeSet<>(Arrays.asList(FACE));
        Check.due("the methods are the face's: " + open, open.equals(due), true);
        for (Class<?> nested : type.getDeclaredClasses()) {
            for (Method method : nested.getDeclaredMethods()) {
                Check.due(method + " has a name of its own", openNames.contains(method.getName()), false);
            }
        }
        for (Method method : type.getDeclaredMethods()) {
            boolean hidden = Modifier.isPrivate(method.getModifiers());
            Check.due(method + " has a name of its own", hidden && openNames.contains(method.getName()), false);
        }
        for (Field field : type.getDeclaredFields()) {
            boolean isOpen = !Modifier.isPrivate(field.getModifiers());
            Check.due(field + " is private, or NONE", isOpen && !field.getName().equals("NONE"), false);
        }
        Constructor<?>[] constructors = type.getDeclaredConstructors();
        Check.due("one constructor", constructors.length, 1);
        Check.due("which is public", Modifier.isPublic(constructors[0].getModifiers()), true);
    }

    private static void nestedClasses() {
        Class<?>[] nested = PrimeBlocks.class.getDeclaredClasses();
        Check.due("some twelve classes at most", nested.length + 1 <= 12, true);
        for (Class<?> type : nested) {
            Check.due(type + " is static", Modifier.isStatic(type.getModifiers()), true);
            Check.due(type + " is hidden", type.getModifiers() & (Modifier.PUBLIC | Modifier.PROTECTED), 0);
            Check.due(type + " has no classes inside", type.getDeclaredClasses().length, 0);
            fields(type);
        }
        fields(PrimeBlocks.class);
    }

    private static void fields(Class<?> type) {
        int own = 0;
        for (Field field : type.getDeclaredFields()) {
            if (Modifier.isStatic(field.getModifiers())) {
                Check.due(field + " is final", Modifier.isFinal(field.getModifiers()), true);
            } else {
                own++;
            }
        }
        Check.due(type + " has some twenty fields at most", own <= 20, true);
        for (Method method : type.getDeclaredMethods()) {
            Check.due(method + " has at most seven parameters", method.getParameterCount() <= 7, true);
        }
    }

    /** The source without comments and without what stands in quotes. */
    private static String plain(String source) {
        return source.replaceAll("(?s)/\\*.*?\\*/", " ").replaceAll("//[^\n]*", " ").replaceAll("'(\\\\.|[^'\\\\])'", "0")
            .replaceAll("\"(\\\\.|[^\"\\\\])*\"", "0");
    }

    private static void words(String source) {
        String[] forbidden = {"\\bthrows?\\b", "\\btry\\b", "\\bcatch\\b", "\\bfinally\\b", "\\bsynchronized\\b", "\\bassert\\b", "->", "::",
            "Exact\\b", "\\bpackage\\b", "\\bprotected\\b", "\\bvolatile\\b", "\\bnative\\b", "static\\s*\\{", "\\bvar\\b", "\\bObject\\b",
            "\\bException\\b", "\\bSystem\\.(?!arraycopy\\b)", "\\bThread\\b", "\\[\\]\\s*\\[\\]\\s*\\[\\]", "[^\\x00-\\x7f]"};
        for (String pattern : forbidden) {
            Matcher matcher = Pattern.compile(pattern).matcher(source);
            Check.due("no " + pattern, matcher.find(), false);
        }
        Matcher imports = Pattern.compile("import ([^;]*);").matcher(source);
        while (imports.find()) {
            Check.due("import " + imports.group(1), imports.group(1).matches("java\\.util\\.(Arrays|ArrayList|List)"), true);
        }
        Matcher library = Pattern.compile("\\b(Arrays|Math|Integer|Long)\\.(\\w+)").matcher(source);
        Set<String> allowed = Set.of("fill", "copyOf", "copyOfRange", "max", "min", "abs", "floorMod", "floorDiv", "bitCount", "compare",
            "MIN_VALUE", "MAX_VALUE");
        while (library.find()) {
            Check.due(library.group(), allowed.contains(library.group(2)), true);
        }
    }

    /** What the compiled class names of other classes: the library's part that is left, and arrays of numbers alone. */
    private static void libraryCalls(Class<?> type) throws IOException {
        for (String call : referencesOf(type)) {
            boolean own = call.startsWith("PrimeBlocks");
            boolean allowed = call.matches("java/lang/Object\\.<init>\\(\\)V")
                || call.matches("java/lang/(Math|Integer|Long)\\.(max|min|abs|floorMod|floorDiv|bitCount|compare)\\([IJ]+\\)[IJ]")
                || call.matches("java/lang/System\\.arraycopy\\(.*")
                || call.matches("java/util/Arrays\\.(fill|copyOf|copyOfRange)\\(\\[[IJSBC].*")
                || call.matches("\\[+[A-Z]\\.clone\\(\\)Ljava/lang/Object;");
            Check.due(type.getName() + " names " + call, own || allowed, true);
        }
    }

    /** Fields and methods that a compiled class names, from its table of constants. */
    private static Set<String> referencesOf(Class<?> type) throws IOException {
        try (DataInputStream in = new DataInputStream(type.getResourceAsStream(type.getName() + ".class"))) {
            in.readLong();
            int count = in.readUnsignedShort();
            String[] texts = new String[count];
            int[][] pairs = new int[count][];
            int[] kinds = new int[count];
            for (int i = 1; i < count; i++) {
                kinds[i] = in.readUnsignedByte();
                switch (kinds[i]) {
                    case 1 -> texts[i] = in.readUTF();
                    case 5, 6 -> {
                        in.readLong();
                        i++;
                    }
                    case 3, 4 -> in.readInt();
                    case 7, 8, 16, 19, 20 -> pairs[i] = new int[] {in.readUnsignedShort()};
                    case 15 -> pairs[i] = new int[] {in.readUnsignedByte(), in.readUnsignedShort()};
                    default -> pairs[i] = new int[] {in.readUnsignedShort(), in.readUnsignedShort()};
                }
            }
            Set<String> all = new TreeSet<>();
            for (int i = 1; i < count; i++) {
                if (kinds[i] >= 9 && kinds[i] <= 11) {
                    int[] name = pairs[pairs[i][1]];
                    all.add(texts[pairs[pairs[i][0]][0]] + "." + texts[name[0]] + texts[name[1]]);
                }
                Check.due("no call that is made at run time", kinds[i] >= 15 && kinds[i] <= 18, false);
            }
            return all;
        }
    }

    /** A method's lines go from its head to the brace that stands under the head's begin. */
    private static void methodLengths(String source) {
        String[] lines = source.split("\n");
        Pattern head = Pattern.compile("^( {4}| {8})(?!return|if|for|while|switch|private static final class)\\w.*\\) \\{$");
        for (int i = 0; i < lines.length; i++) {
            Matcher matcher = head.matcher(lines[i]);
            if (matcher.find()) {
                int end = i;
                while (end < lines.length && !lines[end].equals(matcher.group(1) + "}")) {
                    end++;
                }
                Check.due("length of " + lines[i].trim(), end - i + 1 <= MOST_LINES, true);
            }
            Check.due("line " + (i + 1) + " is not too long", lines[i].length() <= 140, true);
        }
    }
}
