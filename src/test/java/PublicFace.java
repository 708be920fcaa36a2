import java.lang.reflect.Constructor;
import java.lang.reflect.Field;
import java.lang.reflect.Method;
import java.lang.reflect.Modifier;
import java.nio.file.Files;
import java.nio.file.Path;
import java.util.Set;
import java.util.TreeSet;
import java.util.regex.Matcher;
import java.util.regex.Pattern;

/** "The public face": PageWeb has the members that the document writes out, and no others. */
public final class PublicFace {
    private static final Pattern FACE = Pattern.compile("## The public face\n+```java\n(.*?)```", Pattern.DOTALL);

    /** The members as the document has them, arguments by their types alone. */
    private static Set<String> due(String document) {
        Set<String> due = new TreeSet<>();
        Matcher face = FACE.matcher(document);
        Due.is("the document, whether it has a face", face.find(), true);
        for (String line : face.group(1).split("\n")) {
            if (line.endsWith(";")) {
                due.add(line.trim().replaceAll(" = .*;$|;$", "").replaceAll("(int|boolean) \\w+([,)])", "$1$2").replace(", ", ","));
            }
        }
        return due;
    }

    /** All that can be seen from outside the class. */
    private static Set<String> met() {
        Set<String> met = new TreeSet<>();
        for (Field field : PageWeb.class.getDeclaredFields()) {
            if (!Modifier.isPrivate(field.getModifiers())) {
                met.add(field.toString().replace("PageWeb.", ""));
            }
        }
        for (Constructor<?> constructor : PageWeb.class.getDeclaredConstructors()) {
            met.add(constructor.toString());
        }
        for (Method method : PageWeb.class.getDeclaredMethods()) {
            if (!Modifier.isPrivate(method.getModifiers())) {
                met.add(method.toString().replace("PageWeb.", ""));
            }
        }
        return met;
    }

    public static void main(String[] args) throws Exception {
        Due.by("The public face");
        Due.is("the members", met(), due(Files.readString(Path.of("../shared/DOC.md"))));
        Due.is("the class", Modifier.toString(PageWeb.class.getModifiers()), "public final");
        Due.is("the class above it", PageWeb.class.getSuperclass(), Object.class);
        Due.is("interfaces", PageWeb.class.getInterfaces().length, 0);
        for (Class<?> inside : PageWeb.class.getDeclaredClasses()) {
            Due.is(inside.getName() + ", whether it is static", Modifier.isStatic(inside.getModifiers()), true);
            Due.is(inside.getName() + ", whether it is public or protected",
                Modifier.isPublic(inside.getModifiers()) || Modifier.isProtected(inside.getModifiers()), false);
        }
        Due.by("NONE = -1");
        Due.is("NONE", PageWeb.NONE, -1);
        Due.exit();
    }
}
