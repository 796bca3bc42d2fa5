import java.lang.reflect.Constructor;
import java.lang.reflect.Field;
import java.lang.reflect.Method;
import java.lang.reflect.Modifier;
import java.nio.file.Files;
import java.nio.file.Path;
import java.util.ArrayList;
import java.util.Arrays;
import java.util.Collections;
import java.util.List;
import java.util.Set;
import java.util.TreeSet;
import java.util.regex.Matcher;
import java.util.regex.Pattern;

/** The public face of the document, and the rules of LANGUAGE.md that can be read off the class and its source. */
public final class FaceTest {
    private static final Path SOURCE = Path.of("src/main/java/VoiceHouse.java");
    private static final Path DOCUMENT = Path.of("../shared/DOC.md");

    public static void main(String[] args) throws Exception {
        face();
        members();
        source();
        Check.end();
    }

    /** Every method of the document's code block, and no other, is public. */
    private static void face() throws Exception {
        String text = Files.readString(DOCUMENT);
        String block = text.substring(text.indexOf("```java"), text.indexOf("```", text.indexOf("```java") + 7));
        List<String> wanted = new ArrayList<>();
        Matcher line = Pattern.compile("public (int|long) (\\w+)\\(([^)]*)\\);").matcher(block);
        while (line.find()) {
            String types = line.group(3).replaceAll("(\\w+) \\w+", "$1").replace(" ", "");
            wanted.add(line.group(1) + " " + line.group(2) + "(" + types + ")");
        }
        List<String> has = new ArrayList<>();
        for (Method method : VoiceHouse.class.getDeclaredMethods()) {
            if (!Modifier.isPrivate(method.getModifiers())) {
                StringBuilder types = new StringBuilder();
                for (Class<?> type : method.getParameterTypes()) {
                    types.append(types.length() == 0 ? "" : ",").append(type.getName());
                }
                has.add(method.getReturnType().getName() + " " + method.getName() + "(" + types + ")");
            }
        }
        Collections.sort(wanted);
        Collections.sort(has);
        Check.due("methods of the document", wanted.size(), 45);
        Check.isTrue("the face is " + has + ", due is " + wanted, has.equals(wanted));
    }

    private static void members() throws Exception {
        Check.isTrue("public and final", Modifier.isPublic(VoiceHouse.class.getModifiers())
            && Modifier.isFinal(VoiceHouse.class.getModifiers()));
        Constructor<?>[] makers = VoiceHouse.class.getDeclaredConstructors();
        Check.isTrue("one public constructor", makers.length == 1 && Modifier.isPublic(makers[0].getModifiers())
            && makers[0].getParameterCount() == 0);
        Set<String> constants = new TreeSet<>();
        for (Field field : VoiceHouse.class.getDeclaredFields()) {
            if (!Modifier.isPrivate(field.getModifiers())) {
                constants.add(field.getName() + "=" + field.getInt(null));
            }
        }
        Check.isTrue("constants " + constants, constants.equals(new TreeSet<>(List.of("BAD=-1", "STATE=-2", "FULL=-3",
            "NONE=-4", "WRONG=-5", "NO=-2147483648"))));
        Set<String> open = new TreeSet<>();
        for (Method method : VoiceHouse.class.getMethods()) {
            open.add(method.getName());
        }
        Class<?>[] inside = VoiceHouse.class.getDeclaredClasses();
        Check.isTrue("some twelve classes", inside.length <= 12);
        for (Method method : VoiceHouse.class.getDeclaredMethods()) {
            Check.isTrue(method + " bears a name of the face",
                Modifier.isPublic(method.getModifiers()) || !open.contains(method.getName()));
        }
        shapes(VoiceHouse.class, Set.of());
        for (Class<?> one : inside) {
            Check.isTrue(one + " is static", Modifier.isStatic(one.getModifiers()));
            shapes(one, open);
        }
    }

    /** Few fields and parameters, no static state, no name of the face borne again. */
    private static void shapes(Class<?> one, Set<String> taken) {
        int fields = 0;
        for (Field field : one.getDeclaredFields()) {
            boolean isStatic = Modifier.isStatic(field.getModifiers());
            fields += isStatic ? 0 : 1;
            Check.isTrue(field + " is final", !isStatic || Modifier.isFinal(field.getModifiers()));
        }
        Check.isTrue(one + " has some twenty fields", fields <= 20);
        for (Method method : one.getDeclaredMethods()) {
            Check.isTrue(method + " has at most seven parameters", method.getParameterCount() <= 7);
            Check.isTrue(method + " bears a name of the face", !taken.contains(method.getName()));
        }
    }

    private static void source() throws Exception {
        String text = Files.readString(SOURCE);
        String code = text.replaceAll("(?s)/\\*.*?\\*/", " ").replaceAll("//[^\n]*", " ");
        for (String word : List.of("throw", "throws", "try", "catch", "synchronized", "assert", "package", "protected",
            "Object", "System.out", "Random", "Thread", "float", "double", "MIN_VALUE", "MAX_VALUE")) {
            Check.isTrue("no " + word, !Pattern.compile("\\b" + Pattern.quote(word) + "\\b").matcher(code).find());
        }
        Check.isTrue("no lambda or method reference", !code.contains("->") && !code.contains("::"));
        Set<String> imports = new TreeSet<>();
        Matcher line = Pattern.compile("import ([\\w.]+);").matcher(code);
        while (line.find()) {
            imports.add(line.group(1));
        }
        Check.isTrue("imports " + imports, imports.equals(Set.of("java.util.Arrays")));
        Set<String> library = new TreeSet<>();
        Matcher use = Pattern.compile("\\b(Arrays|Math|System|Integer|Long|List)\\.(\\w+)").matcher(code);
        while (use.find()) {
            library.add(use.group(1) + "." + use.group(2));
        }
        library.removeAll(Set.of("Arrays.copyOf", "Arrays.copyOfRange", "Arrays.fill", "Math.abs", "Math.max", "Math.min",
            "System.arraycopy"));
        Check.isTrue("library " + library, library.isEmpty());
        methodLengths(Arrays.asList(code.split("\n", -1)));
    }

    private static void methodLengths(List<String> lines) {
        int start = -1;
        for (int n = 0; n < lines.size(); n++) {
            if (lines.get(n).matches("(    |        )\\w[\\w\\[\\] ]* \\w+\\(.*\\{ *")) {
                start = n;
            }
            if (start >= 0 && lines.get(n).matches("(    |        )\\} *")) {
                Check.isTrue("a method of some sixty lines at line " + (start + 1), n - start <= 60);
                start = -1;
            }
        }
    }
}
