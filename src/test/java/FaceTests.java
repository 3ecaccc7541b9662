import java.io.IOException;
import java.lang.reflect.Constructor;
import java.lang.reflect.Field;
import java.lang.reflect.Member;
import java.lang.reflect.Method;
import java.lang.reflect.Modifier;
import java.lang.reflect.Parameter;
import java.nio.file.Files;
import java.nio.file.Path;
import java.util.ArrayList;
import java.util.List;
import java.util.TreeSet;

/** The public face as the document writes it, and what LANGUAGE.md asks of members; parameters' names need the source. */
public final class FaceTests {
    private static final int MOST_PARAMETERS = 7;
    private static final int MOST_CLASSES = 12;
    private static final int MOST_FIELDS = 20;

    public static void main(String[] args) throws Exception {
        face();
        namesOfParameters();
        noOtherMember();
        insideClasses();
        names();
        staticFields();
        sizes();
        Checks.end();
    }

    /** The lines of the face in the document, from its class line to the brace that ends it. */
    private static List<String> written() throws IOException {
        List<String> lines = new ArrayList<>();
        boolean inside = false;
        for (String line : Files.readAllLines(Path.of("../shared/DOC.md"))) {
            if (line.startsWith("public final class")) {
                inside = true;
            } else if (line.equals("}")) {
                inside = false;
            } else if (inside) {
                lines.add(line.trim());
            }
        }
        return lines;
    }

    private static void face() throws IOException {
        Checks.says("The public face: constants, constructor, methods, parameters, exceptions");
        Checks.is("final and public, nothing else", Modifier.PUBLIC | Modifier.FINAL, FrostMason.class.getModifiers());
        Checks.is("a package", 0, FrostMason.class.getPackageName().length());
        TreeSet<String> due = new TreeSet<>();
        for (String line : written()) {
            due.add(line.replaceAll("(int|long|boolean) \\w+(?=[,)])", "$1"));
        }
        TreeSet<String> got = new TreeSet<>();
        for (Field field : FrostMason.class.getFields()) {
            got.add(fieldLine(field));
        }
        for (Constructor<?> made : FrostMason.class.getConstructors()) {
            got.add("public FrostMason(" + types(made.getParameterTypes(), "") + ");");
        }
        for (Method method : FrostMason.class.getDeclaredMethods()) {
            if (Modifier.isPublic(method.getModifiers())) {
                got.add(methodLine(method));
            }
        }
        Checks.same("the face", due.toString(), got.toString());
        Checks.is("members of the face", 34, got.size());
    }

    private static String fieldLine(Field field) {
        try {
            return Modifier.toString(field.getModifiers()) + " " + field.getType() + " " + field.getName() + " = "
                    + field.get(null) + ";";
        } catch (IllegalAccessException e) {
            return field.getName() + " can't be read";
        }
    }

    private static String methodLine(Method method) {
        String thrown = types(method.getExceptionTypes(), " throws ");
        return Modifier.toString(method.getModifiers()) + " " + method.getReturnType() + " " + method.getName() + "("
                + types(method.getParameterTypes(), "") + ")" + thrown + ";";
    }

    private static String types(Class<?>[] types, String ahead) {
        StringBuilder b = new StringBuilder();
        for (Class<?> type : types) {
            b.append(b.length() == 0 ? ahead : ", ").append(type.getSimpleName());
        }
        return b.toString();
    }

    private static void namesOfParameters() throws IOException {
        Checks.says("The public face, as it is written");
        String source = Files.readString(Path.of("src/main/java/FrostMason.java"));
        for (String line : written()) {
            String head = line.substring(0, line.length() - 1);
            Checks.is("'" + head + "' stands in the source", 1, source.contains("\n    " + head) ? 1 : 0);
        }
    }

    private static void noOtherMember() {
        Checks.says("LANGUAGE 1: no other public, protected or package-visible member");
        List<Member> members = new ArrayList<>(List.of(FrostMason.class.getDeclaredFields()));
        members.addAll(List.of(FrostMason.class.getDeclaredMethods()));
        members.addAll(List.of(FrostMason.class.getDeclaredConstructors()));
        int open = 0;
        for (Member member : members) {
            int modifiers = member.getModifiers();
            if (Modifier.isPublic(modifiers)) {
                open++;
            } else {
                Checks.is(member.getName() + " is private", 1, Modifier.isPrivate(modifiers) ? 1 : 0);
            }
        }
        Checks.is("public members", 34, open);
    }

    private static void insideClasses() {
        Checks.says("LANGUAGE 1: the classes inside are private or package-visible and static");
        for (Class<?> inside : FrostMason.class.getDeclaredClasses()) {
            int modifiers = inside.getModifiers();
            Checks.is(inside.getName() + " is static", 1, Modifier.isStatic(modifiers) ? 1 : 0);
            Checks.is(inside.getName() + " is open", 0, modifiers & (Modifier.PUBLIC | Modifier.PROTECTED));
        }
    }

    /** The class and those inside it. */
    private static List<Class<?>> classes() {
        List<Class<?>> classes = new ArrayList<>(List.of(FrostMason.class.getDeclaredClasses()));
        classes.add(FrostMason.class);
        return classes;
    }

    private static void names() {
        Checks.says("LANGUAGE 1: No private method bears the name of a public one");
        TreeSet<String> face = new TreeSet<>();
        for (Method method : FrostMason.class.getDeclaredMethods()) {
            if (Modifier.isPublic(method.getModifiers())) {
                Checks.is(method.getName() + " stands once", 1, face.add(method.getName()) ? 1 : 0);
            }
        }
        for (Class<?> of : classes()) {
            for (Method method : of.getDeclaredMethods()) {
                if (!Modifier.isPublic(method.getModifiers())) {
                    Checks.is(of.getName() + "." + method.getName(), 0, face.contains(method.getName()) ? 1 : 0);
                }
            }
        }
    }

    private static void staticFields() {
        Checks.says("LANGUAGE 5: Static fields are final: constants of int, long, boolean, char or String");
        List<Class<?>> types = List.of(int.class, long.class, boolean.class, char.class, String.class);
        for (Class<?> of : classes()) {
            for (Field field : of.getDeclaredFields()) {
                if (Modifier.isStatic(field.getModifiers())) {
                    Checks.is(field + " is final", 1, Modifier.isFinal(field.getModifiers()) ? 1 : 0);
                    Checks.is(field + " is a constant", 1, types.contains(field.getType()) ? 1 : 0);
                }
            }
        }
    }

    private static void sizes() {
        Checks.says("LANGUAGE 11: at most seven parameters, some twelve classes, some twenty fields");
        Checks.is("no more classes", 1, classes().size() <= MOST_CLASSES ? 1 : 0);
        for (Class<?> of : classes()) {
            int fields = 0;
            for (Field field : of.getDeclaredFields()) {
                fields += Modifier.isStatic(field.getModifiers()) ? 0 : 1;
            }
            Checks.is("no more fields of " + of.getName(), 1, fields <= MOST_FIELDS ? 1 : 0);
            for (Method method : of.getDeclaredMethods()) {
                Parameter[] parameters = method.getParameters();
                Checks.is("no more parameters of " + method, 1, parameters.length <= MOST_PARAMETERS ? 1 : 0);
            }
        }
    }
}
