import java.lang.reflect.Constructor;
import java.lang.reflect.Field;
import java.lang.reflect.Method;
import java.lang.reflect.Modifier;
import java.nio.file.Files;
import java.nio.file.Path;
import java.util.ArrayList;
import java.util.Arrays;
import java.util.Collections;
import java.util.List;
import java.util.stream.Collectors;

/** The class has the face that the document shows, and no other member that is not private. */
public final class FaceTest {
    public static void main(String[] args) throws java.io.IOException {
        Check.same("methods", shown(), documented());
        Check.same("final", Modifier.isFinal(TunnelRing.class.getModifiers()), true);
        Check.same("constructors", TunnelRing.class.getDeclaredConstructors().length, 1);
        for (Constructor<?> c : TunnelRing.class.getDeclaredConstructors()) {
            Check.same("constructor", c.toString(), "public TunnelRing()");
        }
        for (Field field : TunnelRing.class.getDeclaredFields()) {
            Check.same("field " + field.getName(), Modifier.isPrivate(field.getModifiers()), true);
        }
        for (Class<?> inside : TunnelRing.class.getDeclaredClasses()) {
            Check.same(inside + " is static", Modifier.isStatic(inside.getModifiers()), true);
        }
        privateNames();
        Check.end();
    }

    private static List<String> shown() {
        List<String> faces = new ArrayList<>();
        for (Method m : TunnelRing.class.getDeclaredMethods()) {
            if (!Modifier.isPrivate(m.getModifiers())) {
                String thrown = Arrays.stream(m.getExceptionTypes()).map(Class::getSimpleName)
                        .collect(Collectors.joining(", "));
                String taken = Arrays.stream(m.getParameters())
                        .map(p -> p.getType().getSimpleName()).collect(Collectors.joining(", "));
                faces.add("public " + m.getReturnType().getSimpleName() + " " + m.getName() + "("
                        + taken + ")" + (thrown.isEmpty() ? "" : " throws " + thrown));
            }
        }
        Collections.sort(faces);
        return faces;
    }

    private static List<String> documented() throws java.io.IOException {
        List<String> faces = new ArrayList<>();
        for (String line : Files.readAllLines(Path.of("../shared/DOC.md"))) {
            if (line.startsWith("    public ") && !line.equals("    public TunnelRing();")) {
                faces.add(line.trim().replace(";", "").replaceAll("int \\w+([,)])", "int$1"));
            }
        }
        Collections.sort(faces);
        return faces;
    }

    private static void privateNames() {
        List<Method> methods = Arrays.asList(TunnelRing.class.getDeclaredMethods());
        List<String> open = methods.stream().filter(m -> Modifier.isPublic(m.getModifiers()))
                .map(Method::getName).collect(Collectors.toList());
        for (Method m : methods) {
            if (Modifier.isPrivate(m.getModifiers())) {
                Check.same("private " + m.getName(), open.contains(m.getName()), false);
            }
        }
    }
}
