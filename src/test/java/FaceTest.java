import java.io.IOException;
import java.lang.reflect.Constructor;
import java.lang.reflect.Field;
import java.lang.reflect.Method;
import java.lang.reflect.Modifier;
import java.nio.file.Files;
import java.nio.file.Path;
import java.util.ArrayList;
import java.util.HashSet;
import java.util.List;
import java.util.Set;
import java.util.TreeSet;
import java.util.regex.Matcher;
import java.util.regex.Pattern;

/** The public face as ../shared/DOC.md tells it, and the rules of LANGUAGE.md that can be seen from outside. */
public final class FaceTest {

    private static final Path PROGRAM = Path.of("src/main/java/Checkdesk.java");
    private static final Path DOCUMENT = Path.of("../shared/DOC.md");

    public static void main(String[] args) throws IOException {
        Due.is("the face", faceOfClass(), faceOfDocument());
        Due.is("public and final", Modifier.toString(Checkdesk.class.getModifiers()), "public final");
        noOtherMembers();
        noPrivateMethodWithAPublicName();
        noForbiddenWord();
        onlyListedThingsAreMade();
        shortMethods();
        Due.end("FaceTest");
    }

    private static Set<String> faceOfDocument() throws IOException {
        String document = Files.readString(DOCUMENT);
        int from = document.indexOf("public final class Checkdesk {");
        Set<String> face = new TreeSet<>();
        for (String line : document.substring(from, document.indexOf("\n}", from)).split("\n")) {
            if (line.startsWith("    public ")) {
                face.add(line.trim().replaceAll("(int|long|boolean|String) \\w+(?=[,)])", "$1").replace(";", ""));
            }
        }
        return face;
    }

    private static Set<String> faceOfClass() {
        Set<String> face = new TreeSet<>();
        for (Constructor<?> made : Checkdesk.class.getConstructors()) {
            face.add(plain(made.toString()));
        }
        for (Method method : Checkdesk.class.getDeclaredMethods()) {
            if (Modifier.isPublic(method.getModifiers())) {
                face.add(plain(method.toString()).replace("Checkdesk.", ""));
            }
        }
        return face;
    }

    private static String plain(String signature) {
        return signature.replace("java.lang.", "").replaceAll(",(?! )", ", ");
    }

    private static void noOtherMembers() {
        for (Method method : Checkdesk.class.getDeclaredMethods()) {
            int modifiers = method.getModifiers();
            Due.is(method + " is public or private", Modifier.isPublic(modifiers) || Modifier.isPrivate(modifiers), true);
        }
        for (Field field : Checkdesk.class.getDeclaredFields()) {
            Due.is(field + " is private", Modifier.isPrivate(field.getModifiers()), true);
        }
        List<Field> fields = new ArrayList<>(List.of(Checkdesk.class.getDeclaredFields()));
        for (Class<?> inside : Checkdesk.class.getDeclaredClasses()) {
            fields.addAll(List.of(inside.getDeclaredFields()));
            Due.is(inside + " is static", Modifier.isStatic(inside.getModifiers()), true);
        }
        for (Field field : fields) {
            boolean movable = Modifier.isStatic(field.getModifiers()) && !Modifier.isFinal(field.getModifiers());
            Due.is(field + " is no static state", movable, false);
        }
    }

    private static void noPrivateMethodWithAPublicName() {
        Set<String> names = new HashSet<>();
        List<Method> others = new ArrayList<>();
        for (Method method : Checkdesk.class.getDeclaredMethods()) {
            if (Modifier.isPublic(method.getModifiers())) {
                names.add(method.getName());
            } else {
                others.add(method);
            }
        }
        for (Class<?> inside : Checkdesk.class.getDeclaredClasses()) {
            others.addAll(List.of(inside.getDeclaredMethods()));
        }
        for (Method method : others) {
            Due.is(method + " bears a public name", names.contains(method.getName()), false);
        }
    }

    /** Words that no program within rules 1, 2, 4, 6 and 13 has; -> is the lambda's (but in a switch), :: the method reference's. */
    private static void noForbiddenWord() throws IOException {
        String code = code();
        String[] words = {
            "package", "protected", "finally", "synchronized", "assert", "volatile", "transient", "native", "Thread", "Random",
            "Object", "getMessage", "hashCode", "getClass", "identityHashCode", "nanoTime", "currentTimeMillis",
            "printStackTrace", "StringBuffer", "Character", "Boolean", "HashMap", "Stream",
        };
        for (String word : words) {
            Due.is(word + " in the program", Pattern.compile("\\b" + word + "\\b").matcher(code).find(), false);
        }
        Due.is("-> in the program", code.replaceAll("\\b(case [^;{}]*|default *)->", "").contains("->"), false);
        Due.is(":: in the program", code.contains("::"), false);
        Due.is("Exact in the program", code.contains("Exact"), false);
    }

    /** What is made: a class of its own, or one that rules 3, 4 and 6 list. */
    private static void onlyListedThingsAreMade() throws IOException {
        Set<String> listed = new HashSet<>(List.of("int", "long", "short", "byte", "char", "boolean", "double", "float", "String",
                "StringBuilder", "ArrayList", "IllegalStateException", "IllegalArgumentException", "IndexOutOfBoundsException",
                "ArithmeticException", "UnsupportedOperationException", "NoSuchElementException", "RuntimeException"));
        for (Class<?> inside : Checkdesk.class.getDeclaredClasses()) {
            listed.add(inside.getSimpleName());
        }
        Matcher made = Pattern.compile("\\bnew (\\w+)").matcher(code());
        while (made.find()) {
            Due.is("new " + made.group(1) + " is listed", listed.contains(made.group(1)), true);
        }
    }

    /** Rule 11: a method is short. A method ends with the first brace that stands as far in as its first line. */
    private static void shortMethods() throws IOException {
        String[] lines = code().split("\n");
        Pattern head = Pattern.compile("^( +)[a-z][^;=]*\\([^;]*$");
        for (int at = 0; at < lines.length; at++) {
            Matcher matcher = head.matcher(lines[at]);
            if (!matcher.find() || lines[at].matches(" +(if|for|while|switch|do|try|return|else|throw)\\b.*")) {
                continue;
            }
            int end = at;
            while (end < lines.length && !lines[end].startsWith(matcher.group(1) + "}")) {
                end++;
            }
            int many = end - at + 1;
            Due.is(lines[at].trim() + " has some sixty lines at most: " + many, many <= 65, true);
        }
    }

    /** The program without its comments and written texts. */
    private static String code() throws IOException {
        return Files.readString(PROGRAM).replaceAll("(?s)/\\*.*?\\*/", "").replaceAll("//[^\n]*", "")
                .replaceAll("\"[^\"\n]*\"", "\"\"");
    }
}
