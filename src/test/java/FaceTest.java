import java.lang.reflect.Executable;
import java.lang.reflect.Field;
import java.lang.reflect.Method;
import java.lang.reflect.Modifier;
import java.nio.file.Files;
import java.nio.file.Path;
import java.util.ArrayList;
import java.util.List;
import java.util.TreeSet;

/** The public face: the class has what the document lists, and no other member that is not private. */
public final class FaceTest {
    private static final Path DOCUMENT = Path.of("..", "shared", "DOC.md");

    public static void main(String[] args) throws Exception {
        Check.same("the class", Modifier.toString(PastryBench.class.getModifiers()), "public final");
        Check.same("the face", String.join("\n", face()), String.join("\n", documented()));
        List<String> publicNames = new ArrayList<>();
        for (Method method : PastryBench.class.getDeclaredMethods()) {
            if (!Modifier.isPrivate(method.getModifiers())) {
                publicNames.add(method.getName());
            }
        }
        for (Method method : PastryBench.class.getDeclaredMethods()) {
            boolean isPrivate = Modifier.isPrivate(method.getModifiers());
            Check.same(method + " bears a public name", isPrivate && publicNames.contains(method.getName()), false);
        }
        for (Field field : PastryBench.class.getDeclaredFields()) {
            Check.same(field + " is private", Modifier.isPrivate(field.getModifiers()), true);
            boolean staticOnly = Modifier.isStatic(field.getModifiers());
            Check.same(field + " is final if static", !staticOnly || Modifier.isFinal(field.getModifiers()), true);
        }
        for (Class<?> inside : PastryBench.class.getDeclaredClasses()) {
            Check.same(inside + " is private", Modifier.isPrivate(inside.getModifiers()), true);
            Check.same(inside + " is static", Modifier.isStatic(inside.getModifiers()), true);
            for (Method method : inside.getDeclaredMethods()) {
                Check.same(method + " bears a public name", publicNames.contains(method.getName()), false);
            }
        }
        Check.same("the interfaces", PastryBench.class.getInterfaces().length, 0);
        Check.finish("FaceTest");
    }

    private static TreeSet<String> face() {
        List<Executable> members = new ArrayList<>(List.of(PastryBench.class.getDeclaredMethods()));
        members.addAll(List.of(PastryBench.class.getDeclaredConstructors()));
        TreeSet<String> face = new TreeSet<>();
        for (Executable member : members) {
            if (!Modifier.isPrivate(member.getModifiers()) && !member.isSynthetic()) {
                face.add(told(member));
            }
        }
        return face;
    }

    private static String told(Executable member) {
        String answer = member instanceof Method method ? method.getReturnType().getSimpleName() + " " : "";
        return Modifier.toString(member.getModifiers()) + " " + answer + member.getName() + "("
                + String.join(", ", simple(member.getParameterTypes())) + ")"
                + (member.getExceptionTypes().length == 0 ? "" : " throws ")
                + String.join(", ", simple(member.getExceptionTypes()));
    }

    private static List<String> simple(Class<?>[] types) {
        List<String> names = new ArrayList<>();
        for (Class<?> type : types) {
            names.add(type.getSimpleName());
        }
        return names;
    }

    /** The rows of the document's public face, without the names of the parameters. */
    private static TreeSet<String> documented() throws Exception {
        TreeSet<String> rows = new TreeSet<>();
        for (String line : Files.readAllLines(DOCUMENT)) {
            if (line.startsWith("    public ")) {
                rows.add(line.strip().replace(";", "").replaceAll("int [a-z]+([,)])", "int$1"));
            }
        }
        return rows;
    }
}
