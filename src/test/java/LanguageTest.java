import java.io.ByteArrayInputStream;
import java.io.DataInputStream;
import java.io.IOException;
import java.io.InputStream;
import java.lang.reflect.Constructor;
import java.lang.reflect.Field;
import java.lang.reflect.Method;
import java.lang.reflect.Modifier;
import java.nio.charset.StandardCharsets;
import java.nio.file.Files;
import java.nio.file.Path;
import java.util.ArrayList;
import java.util.Arrays;
import java.util.List;
import java.util.Set;
import java.util.TreeSet;
import java.util.regex.Matcher;
import java.util.regex.Pattern;

/** What LANGUAGE.md asks for and a program can look up: the face, the words used, the library, the sizes. */
public final class LanguageTest {
    private static final Path DOC = Path.of("../shared/DOC.md");
    private static final Path SOURCE = Path.of("src/main/java/HairRope.java");
    private static final String FACE = "int feed(int,int,int,int,int);int back(int);int read();int place();int house(int,int);"
        + "int likes(int,int);int joins(int,int);int at(int);int splice(int);int unsplice();int haul(int);int years(int);"
        + "boolean undo();int most();int weakest(int);int below(int);int orders(int);int peak();int fewest(int,int);"
        + "int needed(int);int soon(int);int peace(int,int);int rests(int);int pivots();int share(int);int lasts(int);"
        + "int harvest(int,int,int);int swap();int quarrel(int);int greyest(int);int then(int,int,int);"
        + "int year(int,int,int,int);int tell(int,int,boolean);int forget();int rows(int,int,int);int feel(int,int,int);"
        + "boolean hold(int);boolean restore(int);int count(int)";
    private static final Set<String> LIBRARY = Set.of("java/lang/Object.<init>", "java/lang/Math.min", "java/lang/Math.max",
        "java/lang/Integer.bitCount", "java/lang/String.length", "java/lang/String.charAt", "java/lang/String.indexOf",
        "java/lang/System.arraycopy", "java/util/Arrays.fill");
    private static final String FORBIDDEN = "\\b(throw|throws|try|catch|finally|synchronized|assert|native|volatile|transient"
        + "|strictfp|var|goto|package|protected|instanceof|float|double)\\b|->|::|@|==\\s*\"|\"\\s*\\+|\\+\\s*\"";

    public static void main(String[] args) throws Exception {
        face();
        faceOfTheDocument();
        List<Class<?>> classes = new ArrayList<>(List.of(HairRope.class));
        classes.addAll(Arrays.asList(HairRope.class.getDeclaredClasses()));
        Check.due("some twelve classes", classes.size() <= 12, true);
        for (Class<?> c : classes) {
            members(c);
            library(c);
        }
        words();
        methodLengths();
        Check.end();
    }

    private static void face() {
        Set<String> due = new TreeSet<>(Arrays.asList(FACE.split(";")));
        Set<String> is = new TreeSet<>();
        for (Method m : HairRope.class.getDeclaredMethods()) {
            if (!Modifier.isPrivate(m.getModifiers())) {
                String types = String.join(",", Arrays.stream(m.getParameterTypes()).map(Class::getName).toList());
                is.add(m.getReturnType().getName() + " " + m.getName() + "(" + types + ")");
                Check.due("only public: " + m, m.getModifiers(), Modifier.PUBLIC);
            }
        }
        Check.due("the face " + is, is.equals(due), true);
        Check.due("the class is public and final", HairRope.class.getModifiers(), Modifier.PUBLIC | Modifier.FINAL);
        Constructor<?>[] made = HairRope.class.getDeclaredConstructors();
        Check.due("one constructor", made.length, 1);
        Check.due("it is public", made[0].getModifiers(), Modifier.PUBLIC);
        Check.due("it takes nothing", made[0].getParameterCount(), 0);
        for (Field f : HairRope.class.getDeclaredFields()) {
            Check.due("only NONE is seen: " + f, !Modifier.isPrivate(f.getModifiers()), f.getName().equals("NONE"));
        }
    }

    /** FACE is what the document's block of Java lists, out of its constant and its constructor. */
    private static void faceOfTheDocument() throws IOException {
        String doc = Files.readString(DOC);
        int from = doc.indexOf("```java");
        String block = doc.substring(from, doc.indexOf("```", from + 3)).replaceAll("\\s+", " ");
        Check.due("the class", block.contains("public final class HairRope {"), true);
        Check.due("the constant", block.contains("public static final int NONE = -1;") && HairRope.NONE == -1, true);
        Check.due("the constructor", block.contains("public HairRope();"), true);
        Set<String> due = new TreeSet<>();
        Matcher m = Pattern.compile("public (int|boolean) (\\w+)\\(([^)]*)\\);").matcher(block);
        while (m.find()) {
            due.add(m.group(1) + " " + m.group(2) + "(" + m.group(3).replaceAll("(int|boolean) \\w+", "$1").replace(" ", "") + ")");
        }
        Check.due("the document's face " + due, due.equals(new TreeSet<>(Arrays.asList(FACE.split(";")))), true);
    }

    private static void members(Class<?> c) {
        int fields = 0;
        for (Field f : c.getDeclaredFields()) {
            fields += Modifier.isStatic(f.getModifiers()) ? 0 : 1;
            if (Modifier.isStatic(f.getModifiers())) {
                Class<?> t = f.getType();
                boolean plain = t == int.class || t == long.class || t == boolean.class || t == char.class || t == String.class;
                Check.due("a constant: " + f, plain && Modifier.isFinal(f.getModifiers()), true);
            }
        }
        Check.due("some twenty fields of " + c, fields <= 20, true);
        for (Method m : c.getDeclaredMethods()) {
            Check.due("seven parameters: " + m, m.getParameterCount() <= 7, true);
            if (c != HairRope.class || Modifier.isPrivate(m.getModifiers())) {
                Check.due("no name of a public one: " + m, FACE.contains(" " + m.getName() + "("), false);
            }
        }
        if (c != HairRope.class) {
            Check.due("static: " + c, Modifier.isStatic(c.getModifiers()), true);
            Check.due("private or package-visible: " + c, c.getModifiers() & (Modifier.PUBLIC | Modifier.PROTECTED), 0);
            Check.due("no classes inside " + c, c.getDeclaredClasses().length, 0);
        }
    }

    /** Every method of the library that a class calls, out of its constants. */
    private static void library(Class<?> c) throws IOException {
        byte[] bytes;
        try (InputStream in = c.getResourceAsStream("/" + c.getName() + ".class")) {
            bytes = in.readAllBytes();
        }
        DataInputStream in = new DataInputStream(new ByteArrayInputStream(bytes));
        in.readInt();
        in.readInt();
        int size = in.readUnsignedShort();
        String[] texts = new String[size];
        int[][] refs = new int[size][];
        int[] tags = new int[size];
        for (int i = 1; i < size; i++) {
            tags[i] = in.readUnsignedByte();
            switch (tags[i]) {
                case 1: texts[i] = in.readUTF(); break;
                case 3: case 4: in.readInt(); break;
                case 5: case 6: in.readLong(); i++; break;
                case 7: case 8: case 16: case 19: case 20: refs[i] = new int[] {in.readUnsignedShort()}; break;
                case 15: in.readUnsignedByte(); in.readUnsignedShort(); break;
                default: refs[i] = new int[] {in.readUnsignedShort(), in.readUnsignedShort()}; break;
            }
        }
        for (int i = 1; i < size; i++) {
            Check.due("no lambda, no joined text in " + c, tags[i] == 15 || tags[i] == 16 || tags[i] == 18, false);
            if (tags[i] == 10 || tags[i] == 11) {
                String owner = texts[refs[refs[i][0]][0]];
                String call = owner + "." + texts[refs[refs[i][1]][0]];
                boolean fine = owner.startsWith("HairRope") || LIBRARY.contains(call) || call.startsWith("[") && call.endsWith(".clone");
                Check.due("library: " + call + " in " + c, fine, true);
            }
        }
    }

    private static String bareSource() throws IOException {
        String s = Files.readString(SOURCE, StandardCharsets.ISO_8859_1);
        return s.replaceAll("(?s)/\\*.*?\\*/", "").replaceAll("//[^\n]*", "");
    }

    private static void words() throws IOException {
        String s = bareSource();
        Matcher m = Pattern.compile(FORBIDDEN).matcher(s);
        Check.due("a forbidden word: " + (m.find() ? m.group() : ""), m.reset().find(), false);
        Matcher imports = Pattern.compile("\\bimport ([^;]*);").matcher(s);
        while (imports.find()) {
            Check.due("import " + imports.group(1), imports.group(1).equals("java.util.Arrays"), true);
        }
        Check.due("signs of ASCII alone", s.chars().allMatch(c -> c == '\n' || c >= 32 && c < 127), true);
        for (String line : s.split("\n")) {
            boolean loop = line.trim().matches("(while|for) \\(.*");
            boolean bound = line.contains("<") || line.contains(">");
            Check.due("a loop's bound: " + line.trim(), loop && !bound, false);
        }
    }

    private static void methodLengths() throws IOException {
        int depth = 0;
        int began = 0;
        int number = 0;
        String[] lines = Files.readString(SOURCE).split("\n");
        boolean inside = false;
        int outer = 0;
        for (String line : lines) {
            number++;
            if (!inside && line.matches("\\s+[^=/*]*\\w+\\([^;]*\\) \\{.*") && !line.matches("\\s+(if|for|while|switch)\\b.*")) {
                inside = true;
                began = number;
                outer = depth;
            }
            depth += line.chars().map(c -> c == '{' ? 1 : c == '}' ? -1 : 0).sum();
            if (inside && depth == outer) {
                inside = false;
                Check.due("lines of the method at " + began, number - began < 60, true);
            }
        }
        Check.due("braces", depth, 0);
    }
}
