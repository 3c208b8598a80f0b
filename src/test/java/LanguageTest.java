import java.io.DataInputStream;
import java.io.IOException;
import java.lang.reflect.Constructor;
import java.lang.reflect.Field;
import java.lang.reflect.Method;
import java.lang.reflect.Modifier;
import java.nio.file.Files;
import java.nio.file.Path;
import java.util.ArrayList;
import java.util.List;
import java.util.TreeSet;
import java.util.regex.Matcher;
import java.util.regex.Pattern;

/** The face of the document, and those rules of LANGUAGE.md that can be seen without reading along. */
public final class LanguageTest {
    private static final String FACE = "seller(III) ofSeller(II) set(III) as(II) may(II) sort(III) ofSort(II) sorts(I) "
        + "now(II) feed(JI) text(I) law(IIIII) days(I) year(I) then(III) waits(II) earned(I) lost(I) begin(II) right(II) "
        + "tenth(II) gains(I) down(IIII) first(I) seed(I) voice(III) trace(I) sheet(III) put(III) move(IIIII) image() "
        + "restore() tell(I) check(I) count(I) told(I)";
    private static final String[] FORBIDDEN = {"\\bthrow\\b", "\\btry\\b", "\\bcatch\\b", "\\bsynchronized\\b",
        "\\bassert\\b", "->", "::", "@", "Exact\\b", "\\bInteger\\.[A-Z]", "\\bRandom\\b", "\\bThread\\b", "nanoTime",
        "currentTimeMillis", "hashCode", "\\.equals\\(", "toString", "\\bObject\\b", "\\bpackage\\b", "static \\{",
        "\\bprotected\\b", "\\bimport (?!java\\.util\\.Arrays;)"};

    /** Rule 4, of which a compiled class names the callee; what is overloaded is told with its arguments. */
    private static final Pattern LIBRARY = Pattern.compile("java/lang/Object\\.<init>\\(\\)"
        + "|java/lang/String\\.((length|charAt|isEmpty|equals|substring|toCharArray)\\(.*|indexOf\\(I\\)|<init>\\(\\[C\\))"
        + "|java/lang/StringBuilder\\.(<init>\\(\\)|append\\((C|I|Ljava/lang/String;)\\)"
        + "|(charAt|setCharAt|setLength|deleteCharAt|reverse|length|toString)\\(.*)"
        + "|java/util/(ArrayList|List)\\.(<init>\\(\\)|(add|get|set|remove|size|isEmpty|clear|of)\\(.*)"
        + "|java/lang/(Math|Integer|Long)\\.\\w+(?<!Exact)\\([IJ]*\\)"
        + "|java/lang/System\\.arraycopy\\(.*|java/util/Arrays\\.(copyOf|copyOfRange|fill)\\(\\[[IJSBCZ].*"
        + "|\\[.*\\.clone\\(\\)|FallingSlates(\\$\\w+)?\\..*");

    private static int wrong = 0;

    private static void must(boolean holds, String what) {
        if (!holds) {
            wrong++;
            System.out.println("not so: " + what);
        }
    }

    public static void main(String[] args) throws Exception {
        face();
        source(Files.readString(Path.of("src/main/java/FallingSlates.java")));
        System.out.println(wrong == 0 ? "the language is kept to" : wrong + " rules are not kept to");
        if (wrong != 0) System.exit(1);
    }

    private static void face() throws IOException {
        Class<?> c = FallingSlates.class;
        must(Modifier.isPublic(c.getModifiers()) && Modifier.isFinal(c.getModifiers()), "public and final");
        TreeSet<String> face = new TreeSet<>(List.of(FACE.split(" ")));
        TreeSet<String> found = new TreeSet<>();
        TreeSet<String> hidden = new TreeSet<>();
        for (Method m : c.getDeclaredMethods()) {
            if (m.isSynthetic()) continue;
            if (Modifier.isPrivate(m.getModifiers())) {
                hidden.add(m.getName());
                continue;
            }
            StringBuilder b = new StringBuilder(m.getName()).append('(');
            for (Class<?> p : m.getParameterTypes()) b.append(p == long.class ? 'J' : p == int.class ? 'I' : '?');
            found.add(b.append(')').toString());
            must(Modifier.isPublic(m.getModifiers()) && !Modifier.isStatic(m.getModifiers()), m + " is public");
            must(m.getReturnType() == int.class, m + " answers an int");
        }
        must(found.equals(face), "the face is " + face + ", not " + found);
        for (String f : face) must(!hidden.contains(f.substring(0, f.indexOf('('))), "a private method is called " + f);
        for (Field f : c.getDeclaredFields()) must(f.isSynthetic() || Modifier.isPrivate(f.getModifiers()), f + " is private");
        Constructor<?>[] made = c.getDeclaredConstructors();
        must(made.length == 1 && made[0].getParameterCount() == 0, "one constructor");
        classes(c);
    }

    private static void classes(Class<?> c) throws IOException {
        List<Class<?>> all = new ArrayList<>(List.of(c.getDeclaredClasses()));
        must(all.size() <= 11, "twelve classes at most");
        all.add(c);
        for (Class<?> inside : all) {
            must(inside == c || Modifier.isStatic(inside.getModifiers()), inside + " is static");
            int fields = 0;
            for (Field f : inside.getDeclaredFields()) {
                if (!Modifier.isStatic(f.getModifiers())) fields++;
                else must(f.isSynthetic() || Modifier.isFinal(f.getModifiers()), f + " is final");
            }
            must(fields <= 20, inside + " has twenty fields at most");
            for (Method m : inside.getDeclaredMethods()) must(m.getParameterCount() <= 7, m + " takes seven at most");
            library(inside);
        }
    }

    private static void library(Class<?> inside) throws IOException {
        String file = inside.getName() + ".class";
        try (DataInputStream in = new DataInputStream(inside.getResourceAsStream(file))) {
            in.readLong();
            for (String callee : new Constants(in).callees()) {
                must(LIBRARY.matcher(callee).matches(), file + " calls what rule 4 doesn't list: " + callee);
            }
        }
    }

    /** What a compiled class names, read from the beginning of its file. */
    private static final class Constants {
        private static final int UTF8 = 1;
        private static final int LONG = 5;
        private static final int DOUBLE = 6;
        private static final int CLASS = 7;
        private static final int STRING = 8;
        private static final int METHOD = 10;
        private static final int INTERFACE_METHOD = 11;
        private static final int METHOD_HANDLE = 15;

        private final int[] tag;
        private final int[] first;
        private final int[] second;
        private final String[] text;
        private boolean dynamic;

        Constants(DataInputStream in) throws IOException {
            int count = in.readUnsignedShort();
            tag = new int[count];
            first = new int[count];
            second = new int[count];
            text = new String[count];
            for (int i = 1; i < count && !dynamic; i++) {
                tag[i] = in.readUnsignedByte();
                dynamic = tag[i] >= METHOD_HANDLE;
                if (tag[i] == UTF8) {
                    text[i] = in.readUTF();
                    continue;
                }
                first[i] = in.readUnsignedShort();
                if (tag[i] != CLASS && tag[i] != STRING) second[i] = in.readUnsignedShort();
                if (tag[i] == LONG || tag[i] == DOUBLE) {
                    in.readInt();
                    i++;
                }
            }
        }

        List<String> callees() {
            if (dynamic) return List.of("a lambda, a method reference or a text joined by +");
            List<String> callees = new ArrayList<>();
            for (int i = 1; i < tag.length; i++) {
                if (tag[i] != METHOD && tag[i] != INTERFACE_METHOD) continue;
                String arguments = text[second[second[i]]];
                callees.add(text[first[first[i]]] + "." + text[first[second[i]]]
                    + arguments.substring(0, arguments.indexOf(')') + 1));
            }
            return callees;
        }
    }

    private static void source(String text) {
        for (int i = 0; i < text.length(); i++) {
            if (text.charAt(i) > 126) must(false, "plain signs alone, at " + i);
        }
        String code = text.replaceAll("(?s)/\\*.*?\\*/", "").replaceAll("//[^\n]*", "");
        for (String f : FORBIDDEN) {
            Matcher m = Pattern.compile(f).matcher(code);
            if (m.find()) must(false, "no " + f + ": " + code.substring(m.start(), Math.min(code.length(), m.start() + 40)));
        }
        int begun = -1;
        String[] lines = text.split("\n");
        for (int i = 0; i < lines.length; i++) {
            boolean method = lines[i].matches(" {4}(    )?[a-z].*\\) \\{") && !lines[i].contains(" class ");
            if (method) begun = i;
            if (begun >= 0 && lines[i].matches(" {4}(    )?\\}")) {
                must(i - begun <= 60, "sixty lines at most from line " + (begun + 1));
                begun = -1;
            }
        }
    }
}
