import java.io.DataInputStream;
import java.io.IOException;
import java.io.InputStream;
import java.lang.reflect.Field;
import java.lang.reflect.Method;
import java.lang.reflect.Modifier;
import java.nio.file.Files;
import java.nio.file.Path;
import java.util.ArrayList;
import java.util.HashSet;
import java.util.List;
import java.util.Set;
import java.util.TreeSet;
import java.util.regex.Matcher;
import java.util.regex.Pattern;

/** The rules of LANGUAGE.md that a program can see: the face, the words of the source, the library used. */
public final class LanguageTest {
    private static final String FACE = "act(III)I arm(IIIIII)I armOf(II)I behind(III)I best(II)I cast()I comes(II)I "
        + "copy(IIIII)I days(I)I dearest(I)I doll(IIIIIII)I dollOf(II)I done(II)I dye(III)I element(II)J fault()I feast(II)I "
        + "fits(III)I given(I)I holds(I)I image()I judge(II)I looks(III)I may(II)I mend(III)I off(I)I on(II)I queue(I)I "
        + "restore()I row(III)I says(II)I seed(I)I set(IIJ)I shop(I)I show(II)I status(I)I tea(II)I tell(III)I trace(I)I "
        + "unlike(II)I whole(I)I";
    private static final Set<String> LIBRARY = Set.of("java/lang/Object.<init>", "java/lang/System.arraycopy",
        "java/lang/Math.min", "java/lang/Math.max", "java/lang/Math.abs", "java/lang/String.length", "java/lang/String.charAt");

    public static void main(String[] args) throws Exception {
        String source = Files.readString(Path.of(args.length > 0 ? args[0] : "src/main/java/DrawerOfArms.java"));
        theFace();
        theFaceOfTheDocument();
        theClassesInside();
        theWords(withoutCommentsAndTexts(source));
        theMethodsLength(source);
        theLibrary();
        Due.end("LanguageTest");
    }

    private static String typed(Method m) {
        StringBuilder t = new StringBuilder(m.getName()).append('(');
        for (Class<?> c : m.getParameterTypes()) {
            t.append(c == long.class ? 'J' : c == int.class ? 'I' : '?');
        }
        return t.append(')').append(m.getReturnType() == long.class ? 'J' : m.getReturnType() == int.class ? 'I' : '?').toString();
    }

    private static void theFace() throws Exception {
        Class<?> face = DrawerOfArms.class;
        Set<String> found = new TreeSet<>();
        Set<String> names = new HashSet<>();
        for (Method m : face.getDeclaredMethods()) {
            if (Modifier.isPublic(m.getModifiers())) {
                found.add(typed(m));
                names.add(m.getName());
            } else {
                Due.holds(m.getName() + " is private", Modifier.isPrivate(m.getModifiers()));
            }
        }
        Due.holds("the face: " + found, found.equals(new TreeSet<>(List.of(FACE.split(" ")))));
        for (Method m : face.getDeclaredMethods()) {
            boolean hidden = Modifier.isPrivate(m.getModifiers()) && names.contains(m.getName());
            Due.holds("private " + m.getName() + " has a name of its own", !hidden);
        }
        for (Field f : face.getDeclaredFields()) {
            boolean none = f.getName().equals("NONE");
            Due.holds("field " + f.getName(), none == Modifier.isPublic(f.getModifiers()) && none != Modifier.isPrivate(f.getModifiers()));
        }
        Due.is("constructors", face.getConstructors().length, 1);
        Due.is("of all", face.getDeclaredConstructors().length, 1);
        Due.holds("public and final", Modifier.isFinal(face.getModifiers()) && Modifier.isPublic(face.getModifiers()));
        Due.is("NONE", face.getField("NONE").getInt(null), -1);
    }

    /** The document's own list of the face: FACE has just what it has, and so has the class. */
    private static void theFaceOfTheDocument() throws IOException {
        Path document = Path.of("../shared/DOC.md");
        if (!Files.isReadable(document)) {
            System.out.println("no document at " + document + ": the face is not held against it");
            return;
        }
        Set<String> listed = new TreeSet<>();
        Matcher call = Pattern.compile("(?m)^ +public (int|long) (\\w+)\\((.*)\\);$").matcher(Files.readString(document));
        while (call.find()) {
            StringBuilder t = new StringBuilder(call.group(2)).append('(');
            for (String one : call.group(3).split(", ")) {
                t.append(one.startsWith("long ") ? "J" : one.startsWith("int ") ? "I" : "");
            }
            listed.add(t.append(')').append(call.group(1).equals("long") ? 'J' : 'I').toString());
        }
        Due.holds("the face that the document lists: " + listed, listed.equals(new TreeSet<>(List.of(FACE.split(" ")))));
    }

    private static List<Class<?>> classes() {
        List<Class<?>> all = new ArrayList<>(List.of(DrawerOfArms.class));
        all.addAll(List.of(DrawerOfArms.class.getDeclaredClasses()));
        return all;
    }

    private static void theClassesInside() {
        Due.holds("twelve classes at most", classes().size() <= 12);
        for (Class<?> c : classes()) {
            String name = c.getSimpleName();
            Due.holds(name + " is static", c == DrawerOfArms.class || Modifier.isStatic(c.getModifiers()));
            Due.holds(name + " is not public inside", c == DrawerOfArms.class || !Modifier.isPublic(c.getModifiers()));
            int fields = 0;
            for (Field f : c.getDeclaredFields()) {
                if (Modifier.isStatic(f.getModifiers())) {
                    Due.holds(name + "'s static " + f.getName() + " is final", Modifier.isFinal(f.getModifiers()));
                } else {
                    fields++;
                }
            }
            Due.holds(name + " has " + fields + " fields", fields <= 20);
            for (Method m : c.getDeclaredMethods()) {
                Due.holds(name + "." + m.getName() + " takes seven at most", m.getParameterCount() <= 7);
                Due.holds(name + "." + m.getName() + " is not made by javac", !m.isSynthetic());
            }
        }
    }

    private static String withoutCommentsAndTexts(String source) {
        return source.replaceAll("(?s)/\\*.*?\\*/", " ").replaceAll("//[^\\n]*", " ")
            .replaceAll("\"[^\"\\n]*\"", "TEXT").replaceAll("'[^'\\n]'", "LETTER");
    }

    private static void theWords(String code) {
        String[] banned = {"throw", "throws", "try", "catch", "finally", "synchronized", "assert", "import", "package", "lambda",
            "equals", "hashCode", "toString", "null", "volatile", "transient", "native", "float", "double", "this", "Object", "yield", "var"};
        for (String word : banned) {
            Due.holds("no " + word, !Pattern.compile("\\b" + word + "\\b").matcher(code).find());
        }
        Due.holds("no lambda", !code.contains("->"));
        Due.holds("no method reference", !code.contains("::"));
        Due.holds("no static block", !Pattern.compile("static\\s*\\{").matcher(code).find());
        Due.holds("no joined texts", !Pattern.compile("TEXT\\s*\\+|\\+\\s*TEXT").matcher(code).find());
        Due.holds("signs 1 to 127 alone", code.chars().allMatch(c -> c >= 1 && c <= 127));
    }

    private static void theMethodsLength(String source) {
        Matcher heads = Pattern.compile("(?m)^( {4}| {8})(?! )[^=;\\n]*\\([^;\\n]*\\{\\n((?:(?!\\1\\}).*\\n)*)").matcher(source);
        int methods = 0;
        while (heads.find()) {
            methods++;
            long lines = heads.group(2).lines().count();
            Due.holds(heads.group().lines().findFirst().orElse("").trim() + " has " + lines + " lines", lines <= 60);
        }
        Due.holds("methods seen: " + methods, methods > 120);
    }

    /** Every method of another class that the class files name is one that the rules list. */
    private static void theLibrary() throws IOException {
        for (Class<?> c : classes()) {
            String file = c.getName() + ".class";
            try (InputStream in = LanguageTest.class.getResourceAsStream("/" + file)) {
                for (String called : calledIn(new DataInputStream(in))) {
                    Due.holds(called + " in " + file, called.startsWith("DrawerOfArms") || LIBRARY.contains(called));
                }
            }
        }
    }

    private static Set<String> calledIn(DataInputStream in) throws IOException {
        in.readLong();
        int n = in.readUnsignedShort();
        int[] tag = new int[n];
        int[] one = new int[n];
        int[] two = new int[n];
        String[] text = new String[n];
        for (int i = 1; i < n; i++) {
            tag[i] = in.readUnsignedByte();
            switch (tag[i]) {
                case 1: text[i] = in.readUTF(); break;
                case 3: case 4: in.readInt(); break;
                case 5: case 6: in.readLong(); i++; break;
                case 7: case 8: case 16: case 19: case 20: one[i] = in.readUnsignedShort(); break;
                case 15: in.readUnsignedByte(); in.readUnsignedShort(); break;
                default: one[i] = in.readUnsignedShort(); two[i] = in.readUnsignedShort(); break;
            }
        }
        Set<String> called = new TreeSet<>();
        for (int i = 1; i < n; i++) {
            if (tag[i] == 10 || tag[i] == 11) {
                called.add(text[one[one[i]]] + "." + text[one[two[i]]]);
            } else if (tag[i] == 17 || tag[i] == 18) {
                called.add("a dynamic call");
            }
        }
        return called;
    }
}
