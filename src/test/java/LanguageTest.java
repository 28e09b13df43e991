import java.io.IOException;
import java.lang.reflect.Constructor;
import java.lang.reflect.Field;
import java.lang.reflect.Method;
import java.lang.reflect.Modifier;
import java.nio.file.Files;
import java.nio.file.Path;
import java.util.Arrays;
import java.util.HashSet;
import java.util.Set;
import java.util.TreeSet;
import java.util.regex.Matcher;
import java.util.regex.Pattern;

/** The public face of the document, and those rules of LANGUAGE.md that a look at the source shows. */
public final class LanguageTest {
    private static final Path SOURCE = Path.of("src/main/java/RealmHouse.java");

    public static void main(String[] args) throws IOException {
        face();
        String code = bare(Files.readString(SOURCE));
        words(code);
        library(code);
        sizes(code);
        members();
        Kit.finish();
    }

    private static final String[] FACE = {"boolean agent(int,int)", "boolean clock(int)", "boolean drop(int,int)",
        "boolean end(int)", "boolean ends(int)", "boolean feed(int,int,int,int,int)", "boolean joins(int,int)",
        "boolean policy(int,int,int)", "boolean room(int)", "boolean seed()", "boolean shift(int,int)",
        "int assure(int,int)", "int assured(int,int)", "int carry(int,int)", "int change(int,int)", "int hand(int,int)",
        "int handed(int,int)", "int kdc()", "int met(int)", "int out(int)", "int present(int,int,int)",
        "int principal(int)", "int receive(int,int)", "int request(int,int,int,int,int,int,int)", "int send(int,int)",
        "int serve(int)", "int take(int)", "int ticket(int,int,int)"};

    private static void face() {
        Set<String> got = new TreeSet<>();
        Set<String> names = new HashSet<>();
        for (Method method : RealmHouse.class.getDeclaredMethods()) {
            if (Modifier.isPublic(method.getModifiers())) {
                StringBuilder text = new StringBuilder(method.getReturnType() + " " + method.getName() + "(");
                for (Class<?> type : method.getParameterTypes()) {
                    text.append(text.charAt(text.length() - 1) == '(' ? "" : ",").append(type);
                }
                got.add(text + ")");
                names.add(method.getName());
            } else {
                Kit.due(method + " is private", Modifier.isPrivate(method.getModifiers()), true);
            }
        }
        Kit.due("the 28 methods are " + got, got.equals(new TreeSet<>(Arrays.asList(FACE))), true);
        Kit.due("28 of them", got.size(), 28);
        int modifiers = RealmHouse.class.getModifiers();
        Kit.due("public and final", Modifier.isPublic(modifiers) && Modifier.isFinal(modifiers), true);
        Constructor<?>[] constructors = RealmHouse.class.getDeclaredConstructors();
        Kit.due("one public constructor", constructors.length == 1 && Modifier.isPublic(constructors[0].getModifiers())
            && constructors[0].getParameterCount() == 0, true);
        for (Class<?> inner : RealmHouse.class.getDeclaredClasses()) {
            for (Method method : inner.getDeclaredMethods()) {
                Kit.due(method + " bears no public name", names.contains(method.getName()), false);
            }
        }
    }

    /** The source without comments and texts. */
    private static String bare(String source) {
        return source.replaceAll("(?s)/\\*.*?\\*/", "").replaceAll("//[^\n]*", "")
            .replaceAll("\"[^\"\n]*\"", "\"\"").replaceAll("'[^'\n]'", "0");
    }

    private static void words(String code) {
        String[] none = {"throw", "throws", "try", "catch", "finally", "synchronized", "assert", "import", "package",
            "volatile", "transient", "native", "var", "yield", "Object", "Exception", "Thread", "Random", "hashCode",
            "toString", "instanceof", "protected", "currentTimeMillis", "nanoTime"};
        for (String word : none) {
            Kit.due("'" + word + "' stands in it", Pattern.compile("\\b" + word + "\\b").matcher(code).find(), false);
        }
        String[] signs = {"->", "::", "@", "static {"};
        for (String sign : signs) {
            Kit.due("'" + sign + "' stands in it", code.contains(sign), false);
        }
        Kit.due("characters are 0 to 127", code.chars().allMatch(c -> c < 128), true);
    }

    private static void library(String code) {
        Set<String> may = Set.of("Math.min", "Math.max", "Math.abs", "System.arraycopy");
        Matcher calls = Pattern.compile("\\b(Math|System|Integer|Long|Arrays|String|Character|Byte)\\.(\\w+)").matcher(code);
        while (calls.find()) {
            Kit.due(calls.group() + " is in the list", may.contains(calls.group()), true);
        }
    }

    private static void sizes(String code) {
        Matcher classes = Pattern.compile("\\b(class|enum|record|interface) (\\w+)").matcher(code);
        int count = 0;
        while (classes.find()) {
            count++;
        }
        Kit.due("twelve classes at most: " + count, count <= 12, true);
        // A method's lines, by the indentation that the file keeps.
        String[] lines = code.split("\n");
        Pattern head = Pattern.compile("^( {4}| {8})(\\w.*\\)) \\{$");
        for (int i = 0; i < lines.length; i++) {
            Matcher method = head.matcher(lines[i]);
            if (method.matches()) {
                int stop = i;
                while (!lines[stop].equals(method.group(1) + "}")) {
                    stop++;
                }
                Kit.due(method.group(2) + " is short", stop - i < 60, true);
                int parameters = method.group(2).split(",").length;
                Kit.due(method.group(2) + " has seven parameters at most", parameters <= 7, true);
            }
        }
        for (String line : lines) {
            Kit.due("lines of 140 at most: " + line, line.length() <= 140, true);
        }
    }

    private static void members() {
        for (Class<?> inner : RealmHouse.class.getDeclaredClasses()) {
            int fields = 0;
            for (Field field : inner.getDeclaredFields()) {
                boolean fixed = Modifier.isStatic(field.getModifiers());
                fields += fixed ? 0 : 1;
                Kit.due(field + " is final", !fixed || Modifier.isFinal(field.getModifiers()), true);
            }
            Kit.due(inner + " is static", Modifier.isStatic(inner.getModifiers()), true);
            Kit.due(inner.getSimpleName() + " has some twenty fields: " + fields, fields <= 22, true);
        }
        for (Field field : RealmHouse.class.getDeclaredFields()) {
            int modifiers = field.getModifiers();
            Kit.due(field + " is private and final", Modifier.isPrivate(modifiers) && Modifier.isFinal(modifiers), true);
        }
    }
}
