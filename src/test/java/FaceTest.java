import java.io.IOException;
import java.lang.reflect.Constructor;
import java.lang.reflect.Field;
import java.lang.reflect.Method;
import java.lang.reflect.Modifier;
import java.nio.file.Files;
import java.nio.file.Path;
import java.util.Set;
import java.util.TreeSet;
import java.util.regex.Matcher;
import java.util.regex.Pattern;

/** The public face, and those rules of LANGUAGE.md that can be read off the class or its text. */
public final class FaceTest {
    private static final Path SOURCE = Path.of("src/main/java/FieldRelay.java");
    private static final Set<String> FACE = Set.of(
            "boolean kind(int,int,int,boolean)", "boolean name(int,int)", "boolean plug(int,int,int)",
            "boolean substitute(int,int,int)", "boolean sense(int,int,int,int)", "boolean target(int,int)",
            "boolean expect(int,int,int,int)", "boolean give(int,int,int,int)", "int open(int)", "int close(int)",
            "int deliver(int)", "int lose(int)", "int repeat(int)", "int tick(int)", "int frame(int,int)",
            "int relation(int,int)", "int device(int,int)", "int data(int,int,int,int)", "int alarms(int)",
            "int count(int)");

    public static void main(String[] args) throws IOException {
        Bench b = new Bench("the face");
        int modifiers = FieldRelay.class.getModifiers();
        b.yes("public", Modifier.isPublic(modifiers));
        b.yes("final", Modifier.isFinal(modifiers));
        members(b);
        nestedClasses(b);
        words(b);
        b.finish();
    }

    private static void members(Bench b) {
        Set<String> open = new TreeSet<>();
        Set<String> openNames = new TreeSet<>();
        Set<String> hiddenNames = new TreeSet<>();
        for (Method m : FieldRelay.class.getDeclaredMethods()) {
            if (Modifier.isPrivate(m.getModifiers())) {
                hiddenNames.add(m.getName());
            } else if (!m.isSynthetic()) {
                open.add(signature(m));
                openNames.add(m.getName());
                b.yes(m + " is public", Modifier.isPublic(m.getModifiers()));
            }
        }
        b.yes("methods of the face: " + open, open.equals(FACE));
        hiddenNames.retainAll(openNames);
        b.yes("private methods with a public name: " + hiddenNames, hiddenNames.isEmpty());
        for (Field f : FieldRelay.class.getDeclaredFields()) {
            boolean constant = f.getName().equals("REFUSED") || f.getName().equals("NONE");
            b.yes(f + " is private or of the face", constant || Modifier.isPrivate(f.getModifiers()));
            b.yes(f + " is final if static", !Modifier.isStatic(f.getModifiers()) || Modifier.isFinal(f.getModifiers()));
        }
        Constructor<?>[] constructors = FieldRelay.class.getDeclaredConstructors();
        b.is("constructors", constructors.length, 1);
        b.is("its parameters", constructors[0].getParameterCount(), 0);
        b.yes("it is public", Modifier.isPublic(constructors[0].getModifiers()));
    }

    private static String signature(Method m) {
        StringBuilder s = new StringBuilder(m.getReturnType().getName()).append(' ').append(m.getName()).append('(');
        for (Class<?> p : m.getParameterTypes()) {
            s.append(s.charAt(s.length() - 1) == '(' ? "" : ",").append(p.getName());
        }
        return s.append(')').toString();
    }

    private static void nestedClasses(Bench b) {
        Class<?>[] nested = FieldRelay.class.getDeclaredClasses();
        b.yes("at most twelve classes", nested.length <= 11);
        for (Class<?> c : nested) {
            int modifiers = c.getModifiers();
            b.yes(c + " is static", Modifier.isStatic(modifiers));
            b.no(c + " is public", Modifier.isPublic(modifiers) || Modifier.isProtected(modifiers));
            int fields = 0;
            for (Field f : c.getDeclaredFields()) {
                fields += Modifier.isStatic(f.getModifiers()) ? 0 : 1;
                b.yes(f + " is final if static",
                        !Modifier.isStatic(f.getModifiers()) || Modifier.isFinal(f.getModifiers()));
            }
            b.yes(c + " has " + fields + " fields", fields <= 20);
        }
    }

    private static void words(Bench b) throws IOException {
        String text = Files.readString(SOURCE).replaceAll("(?s)/\\*.*?\\*/", "").replaceAll("//[^\n]*", "");
        Matcher m = Pattern.compile("\\b(throw|try|catch|synchronized|assert|package|System\\.(?!arraycopy)\\w+|Random|"
                + "Thread|Exact|->|::|\\w+Exact)\\b|->|::").matcher(text);
        b.no("a word that the rules leave out", m.find());
        Matcher imports = Pattern.compile("(?m)^import (.*);$").matcher(text);
        while (imports.find()) {
            b.yes("import of " + imports.group(1), imports.group(1).equals("java.util.Arrays"));
        }
    }
}
