import java.io.IOException;
import java.lang.reflect.Constructor;
import java.lang.reflect.Field;
import java.lang.reflect.Method;
import java.lang.reflect.Modifier;
import java.nio.file.Files;
import java.nio.file.Path;
import java.util.HashSet;
import java.util.Set;
import java.util.TreeSet;
import java.util.regex.Matcher;
import java.util.regex.Pattern;

/** The public face is the document's, and the source keeps to what LANGUAGE.md lets a text search see. */
public final class FaceTest {
    private static final Pattern FACE = Pattern.compile("^    public long (\\w+)\\(([^)]*)\\);$", Pattern.MULTILINE);
    private static final String[] RULED_OUT = {"throw", "try", "catch", "finally", "synchronized", "assert", "new Object",
            "NaN", "->", "::", "System\\.(?!arraycopy)", "Double", "Float", "Thread", "Random", "\\w+Exact", "hashCode",
            "toString", "protected", "record", "static \\{", "java\\.(?!util\\.Arrays;)"};

    public static void main(String[] args) throws IOException {
        face(Files.readString(Path.of("../shared/DOC.md")));
        Set<String> names = new HashSet<>(Script.methods().keySet());
        hidden(BoreDesk.class, names);
        for (Class<?> inside : BoreDesk.class.getDeclaredClasses()) {
            Script.due(inside + " is static", Modifier.isStatic(inside.getModifiers()) ? 1 : 0, 1);
            Script.due(inside + " is not public", Modifier.isPublic(inside.getModifiers()) ? 1 : 0, 0);
            hidden(inside, names);
        }
        Script.due("classes, twelve at most", Math.max(BoreDesk.class.getDeclaredClasses().length + 1, 12), 12);
        source(Files.readString(Path.of("src/main/java/BoreDesk.java")));
        Sentence.finishParts("The public face");
    }

    private static void face(String document) {
        Set<String> due = new TreeSet<>();
        Matcher matcher = FACE.matcher(document);
        Sentence.quote("The public face", "public final class BoreDesk {");
        Sentence.quote("The public face", "public BoreDesk();");
        while (matcher.find()) {
            Sentence.quote("The public face", matcher.group().trim());
            due.add(matcher.group(1) + "(" + matcher.group(2).replaceAll(" \\w+(?=,|$)", "").replace(" ", "") + ")");
        }
        Set<String> has = new TreeSet<>();
        for (Method method : BoreDesk.class.getDeclaredMethods()) {
            if (!Modifier.isPrivate(method.getModifiers())) {
                StringBuilder types = new StringBuilder();
                for (Class<?> type : method.getParameterTypes()) {
                    types.append(types.length() == 0 ? "" : ",").append(type.getName());
                }
                has.add(method.getName() + "(" + types + ")");
                Script.due(method + " is public and no more", method.getModifiers(), Modifier.PUBLIC);
                Script.due(method + " answers a long", method.getReturnType() == long.class ? 1 : 0, 1);
            }
        }
        Script.due("methods", has.size(), 54);
        if (!due.equals(has)) {
            Script.fail("the face is " + has + ", due is " + due);
        }
        Constructor<?>[] constructors = BoreDesk.class.getDeclaredConstructors();
        Script.due("constructors", constructors.length, 1);
        Script.due("its parameters", constructors[0].getParameterCount(), 0);
        Script.due("it is public", constructors[0].getModifiers(), Modifier.PUBLIC);
        Script.due("public and final", BoreDesk.class.getModifiers(), Modifier.PUBLIC | Modifier.FINAL);
        for (Field field : BoreDesk.class.getDeclaredFields()) {
            Script.due(field + " is private", Modifier.isPrivate(field.getModifiers()) ? 1 : 0, 1);
        }
    }

    private static void hidden(Class<?> type, Set<String> names) {
        int fields = 0;
        for (Field field : type.getDeclaredFields()) {
            boolean isStatic = Modifier.isStatic(field.getModifiers());
            fields += isStatic ? 0 : 1;
            Script.due(field + " is final if static", !isStatic || Modifier.isFinal(field.getModifiers()) ? 1 : 0, 1);
        }
        Script.due(type + ": twenty fields at most", Math.max(fields, 20), 20);
        for (Method method : type.getDeclaredMethods()) {
            boolean bears = !Modifier.isPublic(method.getModifiers()) && names.contains(method.getName());
            Script.due(method + " bears a public one's name", bears ? 1 : 0, 0);
            Script.due(method + ": seven parameters at most", Math.max(method.getParameterCount(), 7), 7);
        }
    }

    private static void source(String text) {
        String code = text.replaceAll("(?s)/\\*.*?\\*/", "").replaceAll("//[^\n]*", "");
        for (String word : RULED_OUT) {
            String edge = word.matches("\\w.*\\w") ? "\\b" : "";
            Matcher matcher = Pattern.compile(edge + word + edge).matcher(code);
            if (matcher.find()) {
                Script.fail("ruled out: " + matcher.group() + " at " + code.substring(matcher.start()).split("\n")[0]);
            }
        }
        lengths(text, "    ");
        lengths(text, "        ");
    }

    private static void lengths(String text, String indent) {
        String[] lines = text.split("\n");
        int begun = -1;
        for (int k = 0; k < lines.length; k++) {
            if (lines[k].matches(indent + "\\S.*\\) \\{")) {
                begun = k;
            } else if (lines[k].equals(indent + "}") && begun >= 0) {
                Script.due("at line " + k + " ends a method of sixty lines at most", Math.max(k - begun, 60), 60);
                begun = -1;
            }
        }
    }
}
