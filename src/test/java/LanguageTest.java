import java.io.IOException;
import java.lang.reflect.Constructor;
import java.lang.reflect.Field;
import java.lang.reflect.Method;
import java.lang.reflect.Modifier;
import java.nio.file.Files;
import java.nio.file.Path;
import java.util.Set;
import java.util.TreeSet;
import java.util.regex.Matcher;
import java.util.regex.Pattern;

/** The public face, and those rules of LANGUAGE.md that can be seen from the text. */
public final class LanguageTest {
    private static final Due due = new Due("LanguageTest");
    private static final Set<String> FACE = Set.of(
            "int feed(int,long,int)", "int fill(int,int,int,int)", "int copy(int,int,int,int)",
            "int alter(int,int,int)", "int cut(int,int)", "int length(int)", "int octet(int,int)",
            "int tableOctet(int,int)", "int caches(int,int)", "int code(int,int)",
            "int write(int,int,int,boolean)", "int read()", "int join()", "int told(int)",
            "int instruction(int,int)");

    private LanguageTest() {
    }

    public static void main(String[] args) throws IOException {
        face();
        classesInside();
        String text = Files.readString(Path.of(System.getProperty("program", "src/main/java/CodedDeltas.java")));
        words(text.replaceAll("(?s)/\\*.*?\\*/", "").replaceAll("//[^\n]*", ""));
        due.end();
    }

    private static void face() {
        Class<?> c = CodedDeltas.class;
        due.isTrue("public and final", Modifier.isPublic(c.getModifiers()) && Modifier.isFinal(c.getModifiers()));
        Set<String> names = new TreeSet<>();
        Set<String> publicNames = new TreeSet<>();
        for (Method method : c.getDeclaredMethods()) {
            if (!Modifier.isPrivate(method.getModifiers())) {
                String sign = method.toString();
                due.isTrue(sign + " is public", sign.startsWith("public int CodedDeltas."));
                names.add(sign.replace("public int CodedDeltas.", "int "));
                publicNames.add(method.getName());
            }
        }
        due.isTrue("the methods " + names, names.equals(FACE));
        Constructor<?>[] constructors = c.getDeclaredConstructors();
        due.is("constructors", constructors.length, 1);
        due.isTrue("its constructor", constructors[0].toString().equals("public CodedDeltas()"));
        for (Field field : c.getDeclaredFields()) {
            due.isTrue(field + " is private", Modifier.isPrivate(field.getModifiers()));
        }
        for (Method method : c.getDeclaredMethods()) {
            boolean hidden = Modifier.isPrivate(method.getModifiers());
            due.isTrue(method + " has a name of its own", !hidden || !publicNames.contains(method.getName()));
        }
        for (Class<?> inside : c.getDeclaredClasses()) {
            for (Method method : inside.getDeclaredMethods()) {
                due.isTrue(method + " has a name of its own", !publicNames.contains(method.getName()));
            }
        }
    }

    private static void classesInside() {
        Class<?>[] inside = CodedDeltas.class.getDeclaredClasses();
        due.isTrue("at most twelve classes", inside.length < 12);
        for (Class<?> c : inside) {
            due.isTrue(c + " is static", Modifier.isStatic(c.getModifiers()));
            int fields = 0;
            for (Field field : c.getDeclaredFields()) {
                boolean constant = Modifier.isStatic(field.getModifiers());
                due.isTrue(field + " is final", !constant || Modifier.isFinal(field.getModifiers()));
                fields += constant ? 0 : 1;
            }
            due.isTrue(c + " has few fields: " + fields, fields <= 20);
            for (Method method : c.getDeclaredMethods()) {
                due.isTrue(method + " takes few parameters", method.getParameterCount() <= 7);
            }
        }
    }

    private static void words(String text) {
        String[] none = {"\\bthrow\\b", "\\bthrows\\b", "\\btry\\b", "\\bcatch\\b", "\\bsynchronized\\b", "\\bassert\\b",
            "->", "::", "Exact\\b", "\\bpackage\\b", "\\bSystem\\.(?!arraycopy)", "\\bObject\\b", "\\bThread\\b",
            "\\bRandom\\b", "\\bstatic\\s*\\{", "\\bequals\\b", "\\bhashCode\\b", "\\btoString\\b", "\\bnull\\b"};
        for (String word : none) {
            due.isTrue("no " + word, !Pattern.compile(word).matcher(text).find());
        }
        Matcher imports = Pattern.compile("import\\s+([^;]+);").matcher(text);
        while (imports.find()) {
            due.isTrue(imports.group(1), imports.group(1).equals("java.util.Arrays"));
        }
        int begun = 0;
        String[] lines = text.split("\n");
        for (int i = 0; i < lines.length; i++) {
            if (lines[i].matches("( {4}| {8})(public|private|static|final|int|long|void|boolean|[A-Z]\\w*\\().*\\{")) {
                begun = i;
            }
            if (lines[i].matches("( {4}| {8})\\}")) {
                due.isTrue("a short method at line " + begun, i - begun <= 60 || lines[i].length() == 5);
            }
        }
    }
}
