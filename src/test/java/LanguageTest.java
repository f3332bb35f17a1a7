import java.lang.reflect.Field;
import java.lang.reflect.Member;
import java.lang.reflect.Method;
import java.lang.reflect.Modifier;
import java.nio.file.Files;
import java.nio.file.Path;
import java.util.Set;
import java.util.TreeSet;
import java.util.regex.Matcher;
import java.util.regex.Pattern;

/** The face as the document tells it, and those rules of ../shared/LANGUAGE.md that can be read off the class. */
public final class LanguageTest {
    private static final String[] FORBIDDEN = {"throw", "throws", "try", "catch", "finally", "synchronized", "assert",
        "import", "package", "protected", "volatile", "native", "Object", "Exception", "hashCode", "toString",
        "System.out", "->", "::", "@", "Exact("};
    /** Of what rule 4 lists, what the class uses. */
    private static final Set<String> LIBRARY = Set.of("Math.max", "Math.min", "System.arraycopy");
    private static final int MOST_LINES = 60;

    public static void main(String[] args) throws Exception {
        String code = withoutComments(Files.readString(Path.of("src/main/java/GorgeWire.java")));
        face(code, Files.readString(Path.of("../shared/DOC.md")));
        words(code);
        library(code);
        lengths(code);
        members();
        Due.end();
    }

    private static String withoutComments(String code) {
        return code.replaceAll("(?s)/\\*.*?\\*/", "").replaceAll("//[^\n]*", "");
    }

    private static void face(String code, String doc) {
        Set<String> due = heads(doc.substring(doc.indexOf("```java"), doc.indexOf("## Terms")));
        Set<String> got = heads(code.replace("public final class GorgeWire", ""));
        Due.is("heads in the document", due.size(), 41);
        Due.is("the face: " + got, got.equals(due) ? 1 : 0, 1);
    }

    private static Set<String> heads(String code) {
        Set<String> heads = new TreeSet<>();
        Matcher matcher = Pattern.compile("public (?:int )?\\w+\\([^)]*\\)").matcher(code);
        while (matcher.find()) {
            heads.add(matcher.group());
        }
        return heads;
    }

    private static void words(String code) {
        for (String word : FORBIDDEN) {
            String pattern = Character.isLetter(word.charAt(0)) ? "\\b" + Pattern.quote(word) : Pattern.quote(word);
            String end = Character.isLetter(word.charAt(word.length() - 1)) ? "\\b" : "";
            Due.is("no '" + word + "'", Pattern.compile(pattern + end).matcher(code).find() ? 1 : 0, 0);
        }
    }

    private static void library(String code) {
        Pattern use = Pattern.compile("\\b(?:Integer|Long|Math|System|Arrays|Character|Boolean|String|Double)\\.\\w+");
        Matcher matcher = use.matcher(code);
        while (matcher.find()) {
            Due.is("the library has " + matcher.group(), LIBRARY.contains(matcher.group()) ? 1 : 0, 1);
        }
    }

    /** A method begins with a head that ends in a brace and ends with a brace that stands as far in. */
    private static void lengths(String code) {
        Matcher matcher = Pattern.compile("(?ms)^( {4}| {8})[^\\s}][^\\n]*\\) \\{$.*?^\\1\\}$").matcher(code);
        int methods = 0;
        while (matcher.find()) {
            String method = matcher.group();
            methods++;
            Due.is("some sixty lines at most:" + method.lines().findFirst().orElse(""),
                    method.lines().count() <= MOST_LINES ? 1 : 0, 1);
        }
        Due.is("methods found: " + methods, methods > 100 ? 1 : 0, 1);
    }

    private static void members() {
        Set<String> face = new TreeSet<>();
        for (Method method : GorgeWire.class.getDeclaredMethods()) {
            if (Modifier.isPublic(method.getModifiers())) {
                face.add(method.getName());
            } else {
                isPrivate(method, method.getModifiers());
            }
        }
        for (Field field : GorgeWire.class.getDeclaredFields()) {
            isPrivate(field, field.getModifiers());
        }
        Class<?>[] inside = GorgeWire.class.getDeclaredClasses();
        Due.is("some twelve classes: " + inside.length, inside.length <= 11 ? 1 : 0, 1);
        for (Class<?> one : inside) {
            Due.is(one.getName() + " is static", Modifier.isStatic(one.getModifiers()) ? 1 : 0, 1);
            oneClass(one, face);
        }
        for (Method method : GorgeWire.class.getDeclaredMethods()) {
            boolean twice = !Modifier.isPublic(method.getModifiers()) && face.contains(method.getName());
            Due.is(method + " bears no name of the face", twice ? 1 : 0, 0);
        }
        oneClass(GorgeWire.class, Set.of());
    }

    private static void isPrivate(Member member, int modifiers) {
        Due.is(member + " is private", Modifier.isPrivate(modifiers) ? 1 : 0, 1);
    }

    private static void oneClass(Class<?> one, Set<String> face) {
        int fields = 0;
        for (Field field : one.getDeclaredFields()) {
            boolean isStatic = Modifier.isStatic(field.getModifiers());
            fields += isStatic ? 0 : 1;
            Due.is(field + " is final if static", isStatic && !Modifier.isFinal(field.getModifiers()) ? 1 : 0, 0);
        }
        Due.is(one.getName() + " has some twenty fields", fields <= 20 ? 1 : 0, 1);
        for (Method method : one.getDeclaredMethods()) {
            Due.is(method + " has seven parameters at most", method.getParameterCount() <= 7 ? 1 : 0, 1);
            Due.is(method + " bears no name of the face", face.contains(method.getName()) ? 1 : 0, 0);
        }
    }
}
