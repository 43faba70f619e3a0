import java.io.IOException;
import java.lang.reflect.Constructor;
import java.lang.reflect.Field;
import java.lang.reflect.Method;
import java.lang.reflect.Modifier;
import java.nio.file.Files;
import java.nio.file.Path;
import java.util.Set;
import java.util.TreeSet;
import java.util.regex.Matcher;
import java.util.regex.Pattern;

/** The public face of the document, and rules 1, 3, 5, 6 and 11 of LANGUAGE.md as far as they can be seen. */
public final class FaceTest {
    private static final Due due = new Due();
    private static final Path DOCUMENT = Path.of("../shared/DOC.md");
    private static final String[] METHODS = {
        "int make(int,int,int,int)", "int take(int,int)", "int empty(int)", "int same(int,int)",
        "int look(int,int,int,int,int)", "int length(int,int,int,int,int)", "int read(int,int,int,int,int,int)",
        "int write(int,int,int,int,int,int,long)", "int hang(int,int,int,int,int,int)",
        "int lift(int,int,int,int,int,int)", "int turn(int,int,int,int,int,int)", "int fill(int,int,int,int,int,long)",
        "int pour(int,int)", "int moved()", "int total(int,int,int,int)", "int count(int,int,int,int)", "long seen()",
        "int about(int)"};
    private static final String[] FORBIDDEN = {"throw", "try", "catch", "synchronized", "assert", "import", "package",
        "float", "double", "Float", "Double", "Object", "System", "protected", "volatile", "native"};

    public static void main(String[] args) throws IOException {
        face();
        faceOfTheDocument();
        hidden(DrillCores.class);
        for (Class<?> inside : DrillCores.class.getDeclaredClasses()) {
            nested(inside);
        }
        words();
        due.end();
    }

    private static String told(Method m) {
        StringBuilder text = new StringBuilder(m.getReturnType() + " " + m.getName() + "(");
        for (int i = 0; i < m.getParameterCount(); i++) {
            text.append(i == 0 ? "" : ",").append(m.getParameterTypes()[i]);
        }
        return text.append(")").toString();
    }

    private static void face() {
        int modifiers = DrillCores.class.getModifiers();
        due.holds("public and final", Modifier.isPublic(modifiers) && Modifier.isFinal(modifiers));
        Set<String> methods = new TreeSet<>();
        for (Method m : DrillCores.class.getDeclaredMethods()) {
            if (Modifier.isPublic(m.getModifiers())) {
                methods.add(told(m));
                due.holds("not static: " + m, !Modifier.isStatic(m.getModifiers()));
            }
        }
        due.holds("the methods are " + methods, methods.equals(Set.of(METHODS)));
        Constructor<?>[] constructors = DrillCores.class.getConstructors();
        due.holds("one constructor without arguments", constructors.length == 1 && constructors[0].getParameterCount() == 0);
        due.is("no other constructor", 1, DrillCores.class.getDeclaredConstructors().length);
        Set<String> fields = new TreeSet<>();
        for (Field f : DrillCores.class.getFields()) {
            fields.add(Modifier.toString(f.getModifiers()) + " " + f.getType() + " " + f.getName());
        }
        due.holds("the constants are " + fields,
                fields.equals(Set.of("public static final int BAD", "public static final int FULL")));
        due.is("BAD", -1, DrillCores.BAD);
        due.is("FULL", -2, DrillCores.FULL);
    }

    /** The methods above and those that the document writes down are the same ones. */
    private static void faceOfTheDocument() throws IOException {
        if (!Files.exists(DOCUMENT)) {
            System.out.println("no " + DOCUMENT + " here: the face was not compared with it");
            return;
        }
        String text = Files.readString(DOCUMENT);
        due.holds("the document's constants", text.contains("public static final int BAD = -1, FULL = -2;"));
        Set<String> methods = new TreeSet<>();
        Matcher line = Pattern.compile("(?m)^    public (\\w+) (\\w+)\\((.*)\\);$").matcher(text);
        while (line.find()) {
            String types = line.group(3).replaceAll("(\\w+) \\w+", "$1").replace(" ", "");
            methods.add(line.group(1) + " " + line.group(2) + "(" + types + ")");
        }
        due.holds("the document's methods are " + methods, methods.equals(Set.of(METHODS)));
    }

    private static void hidden(Class<?> c) {
        for (Field f : c.getDeclaredFields()) {
            int m = f.getModifiers();
            due.holds("public or private: " + f, Modifier.isPublic(m) || Modifier.isPrivate(m));
            due.holds("static is final: " + f, !Modifier.isStatic(m) || Modifier.isFinal(m));
        }
        Set<String> open = new TreeSet<>();
        for (Method m : c.getDeclaredMethods()) {
            if (Modifier.isPublic(m.getModifiers())) {
                open.add(m.getName());
            }
        }
        for (Method m : c.getDeclaredMethods()) {
            boolean isPublic = Modifier.isPublic(m.getModifiers());
            due.holds("public or private: " + m, isPublic || Modifier.isPrivate(m.getModifiers()));
            due.holds("no private one of a public name: " + m, isPublic || !open.contains(m.getName()));
            due.holds("seven parameters at most: " + m, m.getParameterCount() <= 7);
        }
    }

    private static void nested(Class<?> c) {
        int modifiers = c.getModifiers();
        due.holds("static: " + c, Modifier.isStatic(modifiers));
        due.holds("not public: " + c, !Modifier.isPublic(modifiers) && !Modifier.isProtected(modifiers));
        for (Field f : c.getDeclaredFields()) {
            due.holds("static is final: " + f, !Modifier.isStatic(f.getModifiers()) || Modifier.isFinal(f.getModifiers()));
        }
        for (Method m : c.getDeclaredMethods()) {
            due.holds("seven parameters at most: " + m, m.getParameterCount() <= 7);
        }
    }

    private static void words() throws IOException {
        String source = Files.readString(Path.of("src/main/java/DrillCores.java"));
        String code = source.replaceAll("(?s)/\\*.*?\\*/", " ").replaceAll("//[^\n]*", " ");
        for (String word : FORBIDDEN) {
            due.holds("no " + word, !Pattern.compile("\\b" + word + "\\b").matcher(code).find());
        }
        due.holds("no lambda", !code.contains("->"));
        due.holds("no method reference", !code.contains("::"));
        due.holds("characters 0 to 127 alone", source.chars().allMatch(ch -> ch < 128));
    }
}
