import java.io.IOException;
import java.lang.reflect.Constructor;
import java.lang.reflect.Field;
import java.lang.reflect.Method;
import java.lang.reflect.Modifier;
import java.nio.charset.StandardCharsets;
import java.nio.file.Files;
import java.nio.file.Path;
import java.util.Arrays;
import java.util.TreeSet;
import java.util.regex.Matcher;
import java.util.regex.Pattern;
import java.util.stream.Collectors;

/** The public face, and what of LANGUAGE.md can be seen by reflection or in the text. */
public final class FaceTest {
    private static final String[] FACE = {
        "at(int) ArrayIndexOutOfBounds",
        "compare(int,int) NoSuchElement",
        "entry(int,int) NoSuchElement IllegalArgument UnsupportedOperation",
        "locator(int,int,int) IndexOutOfBounds",
        "page(int,int,int) NoSuchElement IllegalArgument UnsupportedOperation",
        "print() UnsupportedOperation",
        "range(int,int,boolean) NoSuchElement IllegalArgument UnsupportedOperation",
        "row(int,int) IndexOutOfBounds",
        "rule(int,boolean) IllegalArgument",
        "run()",
        "see(int,int) NoSuchElement UnsupportedOperation",
        "sign(int,int) NoSuchElement IllegalArgument UnsupportedOperation",
        "style(int) IllegalArgument UnsupportedOperation",
        "told(int,int) IndexOutOfBounds"};
    private static final String[] NEVER = {"catch", "finally", "synchronized", "assert", "->", "::", "import static",
        "java.io", "java.nio", "System.out", "Random", "Thread", "public static", "protected ", "native", "Exact("};

    public static void main(String[] args) throws IOException {
        members();
        nestedClasses();
        String source = Files.readString(Path.of("src/main/java/IndexSort.java"), StandardCharsets.ISO_8859_1);
        asTheDocumentWrites(source, Files.readString(Path.of("../shared/DOC.md"), StandardCharsets.UTF_8));
        text(source);
        Check.finish();
    }

    private static void members() {
        TreeSet<String> open = new TreeSet<>();
        TreeSet<String> hidden = new TreeSet<>();
        for (Method m : IndexSort.class.getDeclaredMethods()) {
            String types = Arrays.stream(m.getParameterTypes()).map(Class::getName).collect(Collectors.joining(","));
            if (Modifier.isPrivate(m.getModifiers())) {
                hidden.add(m.getName());
            } else {
                StringBuilder call = new StringBuilder(m.getName() + "(" + types + ")");
                for (Class<?> thrown : m.getExceptionTypes()) {
                    call.append(' ').append(thrown.getSimpleName().replace("Exception", ""));
                }
                open.add(call.toString());
                Check.same(m.getName() + " answers", "int", m.getReturnType().getName());
                Check.same(m.getName() + " is", "public", Modifier.toString(m.getModifiers()));
            }
        }
        Check.same("the methods", String.join("; ", FACE), String.join("; ", open));
        for (String name : hidden) {
            for (String call : FACE) {
                Check.same(name + " is a public name too", "false", Boolean.toString(call.startsWith(name + "(")));
            }
        }
        Check.same("the class is", "public final", Modifier.toString(IndexSort.class.getModifiers()));
        Constructor<?>[] made = IndexSort.class.getDeclaredConstructors();
        Check.same("constructors", "1 public 0", made.length + " " + Modifier.toString(made[0].getModifiers()) + " "
            + made[0].getParameterCount());
        for (Field f : IndexSort.class.getDeclaredFields()) {
            Check.same(f.getName() + " is private", "true", Boolean.toString(Modifier.isPrivate(f.getModifiers())));
        }
    }

    private static void nestedClasses() {
        Class<?>[] nested = IndexSort.class.getDeclaredClasses();
        Check.same("some twelve classes", "true", Boolean.toString(nested.length <= 11));
        for (Class<?> one : nested) {
            Check.same(one.getName() + " is", "private static final", Modifier.toString(one.getModifiers()));
            int fields = 0;
            for (Field f : one.getDeclaredFields()) {
                boolean isStatic = Modifier.isStatic(f.getModifiers());
                fields += isStatic ? 0 : 1;
                Check.same(f.getName() + " may change", "false",
                    Boolean.toString(isStatic && !Modifier.isFinal(f.getModifiers())));
            }
            Check.same(one.getName() + " has some twenty fields", "true", Boolean.toString(fields <= 20));
            for (Method m : one.getDeclaredMethods()) {
                Check.same(m.getName() + " takes seven at most", "true", Boolean.toString(m.getParameterCount() <= 7));
            }
        }
    }

    /** The names of the parameters too, which reflection does not tell. */
    private static void asTheDocumentWrites(String source, String document) {
        String code = source.replaceAll("\\s+", " ");
        Matcher face = Pattern.compile("(?m)^ *(public [^;{]*)[;{]$").matcher(document);
        int found = 0;
        while (face.find()) {
            found++;
            String line = face.group(1).strip();
            Check.same("the class has " + line, "true", Boolean.toString(code.contains(line + " {")));
        }
        Check.same("lines of the face", Integer.toString(FACE.length + 2), Integer.toString(found));
    }

    private static void text(String source) {
        String code = source.replaceAll("(?s)/\\*.*?\\*/", "").replaceAll("//[^\n]*", "");
        for (String word : NEVER) {
            Check.same("the text has " + word, "false", Boolean.toString(code.contains(word)));
        }
        Matcher imports = Pattern.compile("(?m)^import (.*);").matcher(code);
        while (imports.find()) {
            Check.same("an import", "java.util.NoSuchElementException", imports.group(1));
        }
        Matcher thrown = Pattern.compile("\\bthrow\\b[^;]*;").matcher(code);
        while (thrown.find()) {
            Check.same("thrown by its name: " + thrown.group(), "true", Boolean.toString(thrown.group().matches(
                "throw new (IllegalArgument|IndexOutOfBounds|ArrayIndexOutOfBounds|UnsupportedOperation|NoSuchElement)"
                + "Exception\\(\"[^\"]*\"\\);")));
        }
    }
}
