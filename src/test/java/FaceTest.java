import java.lang.reflect.Constructor;
import java.lang.reflect.Field;
import java.lang.reflect.Method;
import java.lang.reflect.Modifier;
import java.util.Set;
import java.util.TreeSet;

/** The class has the document's face, word for word, and no other member that can be seen from outside. */
public final class FaceTest {
    private static final String[] METHODS = {
        "int host(long) IllegalArgumentException IllegalStateException",
        "int archive(int,long,long) IllegalArgumentException IllegalStateException",
        "int need(int,int,long,boolean) NoSuchElementException IllegalArgumentException IllegalStateException IndexOutOfBoundsException",
        "int cls(int,int,int,int) NoSuchElementException IllegalArgumentException",
        "int ways(int,int,boolean,boolean) NoSuchElementException IllegalArgumentException",
        "int extension(int,int,double,int) NoSuchElementException IllegalArgumentException IndexOutOfBoundsException",
        "boolean enable(int,boolean) NoSuchElementException",
        "int start() IllegalStateException",
        "int load(int) NoSuchElementException IllegalStateException",
        "int stop(int) NoSuchElementException",
        "int shutdown() IllegalStateException",
        "int see(int,int) NoSuchElementException IllegalArgumentException",
        "int link(int,int) NoSuchElementException IllegalArgumentException IllegalStateException",
        "int uber(int) NoSuchElementException IllegalArgumentException",
        "int extended(int,int) IndexOutOfBoundsException IllegalArgumentException",
        "double weight(int) IllegalArgumentException",
        "int look(int,int) IllegalArgumentException",
        "int compare(long,long) IllegalArgumentException",
        "int count(int) IllegalArgumentException",
    };

    public static void main(String[] args) throws Exception {
        Checks checks = new Checks();
        checks.promise("the face");
        checks.due("modifiers", Modifier.toString(PluginYard.class.getModifiers()), "public final");
        checks.due("methods", visibleMethods(), new TreeSet<>(Set.of(METHODS)));
        checks.due("fields", visibleFields(), new TreeSet<>(Set.of("NONE=0", "THERE=1", "ACTIVE=2", "FAILED=3", "STOPPED=4")));
        checks.due("constructors", visibleConstructors(), "public PluginYard()");
        checks.due("private methods with a public name", privateNamesakes(), new TreeSet<String>());
        for (Class<?> inside : PluginYard.class.getDeclaredClasses()) {
            int modifiers = inside.getModifiers();
            checks.due(inside + " is static", Modifier.isStatic(modifiers), true);
            checks.due(inside + " is hidden", Modifier.isPublic(modifiers) || Modifier.isProtected(modifiers), false);
        }
        checks.end();
    }

    private static Set<String> visibleMethods() {
        Set<String> found = new TreeSet<>();
        for (Method method : PluginYard.class.getDeclaredMethods()) {
            if (!Modifier.isPrivate(method.getModifiers()) && !method.isSynthetic()) {
                found.add(described(method));
            }
        }
        return found;
    }

    private static String described(Method method) {
        StringBuilder text = new StringBuilder(method.getReturnType() + " " + method.getName() + "(");
        String comma = "";
        for (Class<?> type : method.getParameterTypes()) {
            text.append(comma).append(type);
            comma = ",";
        }
        text.append(")");
        for (Class<?> type : method.getExceptionTypes()) {
            text.append(" ").append(type.getSimpleName());
        }
        return Modifier.isStatic(method.getModifiers()) ? "static " + text : text.toString();
    }

    private static Set<String> visibleFields() throws Exception {
        Set<String> found = new TreeSet<>();
        for (Field field : PluginYard.class.getDeclaredFields()) {
            if (!Modifier.isPrivate(field.getModifiers())) {
                boolean constant = Modifier.toString(field.getModifiers()).equals("public static final");
                found.add(field.getName() + "=" + (constant ? field.get(null) : "no constant"));
            }
        }
        return found;
    }

    private static String visibleConstructors() {
        StringBuilder text = new StringBuilder();
        for (Constructor<?> constructor : PluginYard.class.getDeclaredConstructors()) {
            text.append(constructor);
        }
        return text.toString();
    }

    private static Set<String> privateNamesakes() {
        Set<String> faceNames = new TreeSet<>();
        for (String method : METHODS) {
            faceNames.add(method.substring(method.indexOf(' ') + 1, method.indexOf('(')));
        }
        Set<String> found = new TreeSet<>();
        for (Method method : PluginYard.class.getDeclaredMethods()) {
            if (Modifier.isPrivate(method.getModifiers()) && faceNames.contains(method.getName())) {
                found.add(method.getName());
            }
        }
        return found;
    }
}
