import java.io.DataInputStream;
import java.io.IOException;
import java.lang.reflect.Constructor;
import java.lang.reflect.Field;
import java.lang.reflect.Method;
import java.lang.reflect.Modifier;
import java.nio.file.Files;
import java.nio.file.Path;
import java.util.Arrays;
import java.util.Set;
import java.util.TreeSet;
import java.util.regex.Matcher;
import java.util.regex.Pattern;

/** The document's public face, and the rules of LANGUAGE.md that can be read off the class and its source. */
public final class FaceTest {
    private static final Set<String> FACE = Set.of(
            "boolean feed[int, int, int, int, int]", "int column[int]", "boolean add[int, long, int]",
            "boolean addText[int, int]", "boolean miss[int, int]", "boolean clear[int]", "int literal[int, long]",
            "int literalText[int]", "int step[int, int, int, int, int]", "void forget[]", "int scan[int]",
            "int truth[int]", "int chosen[int]", "boolean known[int, int, int]", "boolean dictionary[int]",
            "boolean unknown[int]", "int can[]");
    private static final String[] BARRED = {
        "\\b(throw|throws|try|catch|finally|synchronized|assert|volatile|native|package|protected)\\b",
        "->", "::", "\\b(Object|Exception|Thread|System\\.(?!arraycopy)|Random|Iterator)\\b", "Exact\\b",
        "\"", "\\b(equals|hashCode|toString|getClass)\\b", "\\bstatic\\s*\\{", "\\bnull\\s*\\.",
    };

    // What the class calls; LANGUAGE.md lists more.
    private static final Set<String> LIBRARY = Set.of("java/lang/Object.<init>", "java/util/Arrays.copyOf");
    private static final Set<Class<?>> CONSTANT_TYPES = Set.of(int.class, long.class, boolean.class, char.class,
            String.class, int[].class, long[].class, char[].class, byte[].class);

    private static int wrong = 0;

    public static void main(String[] args) throws Exception {
        checkMembers();
        checkNested();
        checkCalls(TruthScan.class);
        for (Class<?> inside : TruthScan.class.getDeclaredClasses()) {
            checkCalls(inside);
        }
        checkSource(Files.readString(Path.of(args.length > 0 ? args[0] : "src/main/java/TruthScan.java")));
        System.out.println(wrong == 0 ? "the face is as due" : wrong + " things are not as due");
        if (wrong != 0) {
            System.exit(1);
        }
    }

    private static void due(String what, boolean holds) {
        if (!holds) {
            wrong++;
            System.out.println("not so: " + what);
        }
    }

    private static void checkMembers() {
        Class<?> face = TruthScan.class;
        due("public and final", face.getModifiers() == (Modifier.PUBLIC | Modifier.FINAL));
        Set<String> found = new TreeSet<>();
        Set<String> names = new TreeSet<>();
        for (Method method : face.getDeclaredMethods()) {
            if (Modifier.isPublic(method.getModifiers())) {
                found.add(method.getReturnType() + " " + method.getName() + Arrays.toString(method.getParameterTypes()));
                names.add(method.getName());
                due("an object's method: " + method, !Modifier.isStatic(method.getModifiers()));
            } else {
                due("private: " + method, Modifier.isPrivate(method.getModifiers()));
            }
        }
        due("the methods of the document, not " + found, found.equals(FACE));
        for (Method method : face.getDeclaredMethods()) {
            due("no public one's name: " + method, Modifier.isPublic(method.getModifiers()) || !names.contains(method.getName()));
        }
        Constructor<?>[] constructors = face.getDeclaredConstructors();
        due("one constructor", constructors.length == 1 && constructors[0].getParameterCount() == 0
                && Modifier.isPublic(constructors[0].getModifiers()));
        for (Field field : face.getDeclaredFields()) {
            boolean constant = field.getName().equals("NONE") && field.getType() == int.class;
            int modifiers = field.getModifiers();
            due("private, or NONE: " + field, constant ? Modifier.isPublic(modifiers) : Modifier.isPrivate(modifiers));
            due("static fields are final: " + field, !Modifier.isStatic(modifiers) || Modifier.isFinal(modifiers));
            due("a constant: " + field, !Modifier.isStatic(modifiers) || CONSTANT_TYPES.contains(field.getType()));
        }
    }

    private static void checkNested() {
        Class<?>[] nested = TruthScan.class.getDeclaredClasses();
        due("at most twelve classes", nested.length < 12);
        for (Class<?> inside : nested) {
            due("static: " + inside, Modifier.isStatic(inside.getModifiers()));
            due("private or package-visible: " + inside, (inside.getModifiers() & (Modifier.PUBLIC | Modifier.PROTECTED)) == 0);
            due("at most twenty fields: " + inside, inside.getDeclaredFields().length <= 20);
            for (Method method : inside.getDeclaredMethods()) {
                due("at most seven parameters: " + method, method.getParameterCount() <= 7);
                due("no public one's name: " + method, FACE.stream().noneMatch(f -> f.contains(" " + method.getName() + "[")));
            }
            for (Constructor<?> constructor : inside.getDeclaredConstructors()) {
                due("at most seven parameters: " + constructor, constructor.getParameterCount() <= 7);
            }
        }
        for (Method method : TruthScan.class.getDeclaredMethods()) {
            due("at most seven parameters: " + method, method.getParameterCount() <= 7);
        }
    }

    /** What a class calls stands in the constant pool of its file. */
    private static void checkCalls(Class<?> compiled) throws IOException {
        try (DataInputStream in = new DataInputStream(compiled.getResourceAsStream(compiled.getName() + ".class"))) {
            in.skipBytes(8);
            int size = in.readUnsignedShort();
            String[] texts = new String[size];
            int[] tags = new int[size];
            int[] first = new int[size];
            int[] second = new int[size];
            for (int i = 1; i < size; i++) {
                tags[i] = in.readUnsignedByte();
                switch (tags[i]) {
                    case 1 -> texts[i] = in.readUTF();
                    case 7, 8, 16, 19, 20 -> first[i] = in.readUnsignedShort();
                    case 15 -> in.skipBytes(3);
                    case 3, 4 -> in.skipBytes(4);
                    case 5, 6 -> {
                        in.skipBytes(8);
                        i++;
                    }
                    default -> {
                        first[i] = in.readUnsignedShort();
                        second[i] = in.readUnsignedShort();
                    }
                }
            }
            for (int i = 1; i < size; i++) {
                due("no call site made at run time in " + compiled, tags[i] != 18 && tags[i] != 17);
                if (tags[i] == 10 || tags[i] == 11) {
                    String owner = texts[first[first[i]]];
                    String call = owner + "." + texts[first[second[i]]];
                    due("a listed call: " + call, owner.startsWith("TruthScan") || LIBRARY.contains(call));
                }
            }
        }
    }

    private static void checkSource(String source) {
        String code = source.replaceAll("(?s)/\\*.*?\\*/", "").replaceAll("//[^\n]*", "");
        for (String barred : BARRED) {
            Matcher matcher = Pattern.compile(barred).matcher(code);
            due("no " + barred + " in the source", !matcher.find());
        }
        Matcher imports = Pattern.compile("import\\s+([^;]+);").matcher(code);
        while (imports.find()) {
            due("a listed library: " + imports.group(1), imports.group(1).equals("java.util.Arrays"));
        }
        Matcher methods = Pattern.compile("(?ms)^( {4}| {8})(?! )[^\n]*\\) \\{$.*?^\\1}").matcher(code);
        int seen = 0;
        while (methods.find()) {
            seen++;
            due("at most sixty lines: " + methods.group(), methods.group().lines().count() <= 60);
        }
        due("methods were found", seen > FACE.size());
    }
}
