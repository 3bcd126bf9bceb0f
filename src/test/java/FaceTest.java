import java.lang.reflect.Constructor;
import java.lang.reflect.Field;
import java.lang.reflect.Method;
import java.lang.reflect.Modifier;
import java.nio.file.Files;
import java.nio.file.Path;
import java.util.Arrays;
import java.util.TreeSet;

/** The class has the document's face, with the exceptions that it names, and no other open member. */
public final class FaceTest {
    public static void main(String[] args) throws Exception {
        String document = Files.readString(Path.of(args[0]));
        Check.same("the face", face(), documentFace(document));
        Check.same("public final class", BowFoundry.class.getModifiers(),
                Modifier.PUBLIC | Modifier.FINAL);
        for (Constructor<?> c : BowFoundry.class.getDeclaredConstructors()) {
            Check.same("constructor", c.toGenericString(), "public BowFoundry()");
        }
        for (Field f : BowFoundry.class.getDeclaredFields()) {
            Check.same(f + " is private", Modifier.isPrivate(f.getModifiers()), true);
            Check.same(f + " is final if static", !Modifier.isStatic(f.getModifiers())
                    || Modifier.isFinal(f.getModifiers()), true);
        }
        Check.end("FaceTest");
    }

    private static TreeSet<String> face() {
        TreeSet<String> names = new TreeSet<>();
        for (Method m : BowFoundry.class.getDeclaredMethods()) {
            if (!Modifier.isPrivate(m.getModifiers()) && !m.isSynthetic()) {
                names.add(m.getReturnType() + " " + m.getName() + " "
                        + Arrays.toString(m.getParameterTypes()) + " "
                        + new TreeSet<>(Arrays.stream(m.getExceptionTypes())
                                .map(Class::getSimpleName).toList()));
            }
        }
        return names;
    }

    private static TreeSet<String> documentFace(String document) {
        TreeSet<String> names = new TreeSet<>();
        for (String line : document.split("\n")) {
            String text = line.trim();
            if (!text.startsWith("public ") || text.contains("class") || text.contains(" BowFoundry()")) {
                continue;
            }
            String head = text.substring("public ".length(), text.indexOf('('));
            String inside = text.substring(text.indexOf('(') + 1, text.indexOf(')'));
            String[] types = inside.isEmpty() ? new String[0] : inside.split(", ");
            for (int i = 0; i < types.length; i++) {
                types[i] = types[i].substring(0, types[i].indexOf(' '));
            }
            int thrown = text.indexOf(" throws ");
            TreeSet<String> exceptions = new TreeSet<>();
            if (thrown >= 0) {
                String list = text.substring(thrown + " throws ".length(), text.length() - 1);
                exceptions.addAll(Arrays.asList(list.split(", ")));
            }
            names.add(head + " " + Arrays.toString(types) + " " + exceptions);
        }
        return names;
    }
}
