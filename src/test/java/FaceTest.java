import java.io.IOException;
import java.lang.reflect.Constructor;
import java.lang.reflect.Field;
import java.lang.reflect.Method;
import java.lang.reflect.Modifier;
import java.nio.file.Files;
import java.nio.file.Path;
import java.util.HashSet;
import java.util.Set;
import java.util.TreeSet;
import java.util.regex.Matcher;
import java.util.regex.Pattern;

/** The face is that of the document's section, and nothing else of the class can be seen from outside. */
public final class FaceTest {
    private static final Pattern METHOD = Pattern.compile("    public (\\w+) (\\w+)\\((.*?)\\)(?: throws (.*?))?;");

    public static void main(String[] args) throws IOException {
        Set<String> documented = documented();
        Set<String> seen = new TreeSet<>();
        Set<String> names = new HashSet<>();
        for (Method method : Ticketdoor.class.getDeclaredMethods()) {
            if (Modifier.isPublic(method.getModifiers())) {
                seen.add(signature(method));
                names.add(method.getName());
            }
        }
        Check.due("as many as in the document", 43, documented::size);
        Check.due("public methods", documented, () -> seen);
        Check.due("one constructor", 1, () -> Ticketdoor.class.getDeclaredConstructors().length);
        Constructor<?> constructor = Ticketdoor.class.getDeclaredConstructors()[0];
        Check.that("public, without parameters",
                Modifier.isPublic(constructor.getModifiers()) && constructor.getParameterCount() == 0);
        Check.that("public and final", Modifier.isPublic(Ticketdoor.class.getModifiers())
                && Modifier.isFinal(Ticketdoor.class.getModifiers()));
        checkHidden(names);
        Check.finish("FaceTest");
    }

    private static Set<String> documented() throws IOException {
        String text = Files.readString(Path.of("../shared/DOC.md"));
        int begin = text.indexOf("public final class Ticketdoor {");
        Matcher matcher = METHOD.matcher(text.substring(begin, text.indexOf("```", begin)));
        Set<String> all = new TreeSet<>();
        while (matcher.find()) {
            String parameters = matcher.group(3).replaceAll(" \\w+(,|$)", "$1");
            String thrown = matcher.group(4) == null ? "" : matcher.group(4);
            all.add(matcher.group(1) + " " + matcher.group(2) + "(" + parameters + ") " + thrown);
        }
        return all;
    }

    private static String signature(Method method) {
        return method.getReturnType() + " " + method.getName() + "(" + listed(method.getParameterTypes()) + ") "
                + listed(method.getExceptionTypes());
    }

    private static String listed(Class<?>[] types) {
        StringBuilder all = new StringBuilder();
        for (Class<?> type : types) {
            all.append(all.length() == 0 ? "" : ", ").append(type.getSimpleName());
        }
        return all.toString();
    }

    private static void checkHidden(Set<String> publicNames) {
        for (Field field : Ticketdoor.class.getDeclaredFields()) {
            Check.that("private field " + field, Modifier.isPrivate(field.getModifiers()));
        }
        for (Method method : Ticketdoor.class.getDeclaredMethods()) {
            Check.that("public or private " + method,
                    Modifier.isPublic(method.getModifiers()) || Modifier.isPrivate(method.getModifiers()));
            Check.that("a name of its own " + method,
                    Modifier.isPublic(method.getModifiers()) || !publicNames.contains(method.getName()));
        }
        for (Class<?> inside : Ticketdoor.class.getDeclaredClasses()) {
            Check.that("static " + inside, Modifier.isStatic(inside.getModifiers()));
            Check.that("not public " + inside, !Modifier.isPublic(inside.getModifiers()));
            for (Method method : inside.getDeclaredMethods()) {
                Check.that("a name of its own " + method, !publicNames.contains(method.getName()));
            }
        }
    }
}
