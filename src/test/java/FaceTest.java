import java.lang.reflect.Field;
import java.lang.reflect.Method;
import java.lang.reflect.Modifier;
import java.util.Arrays;
import java.util.Set;
import java.util.TreeSet;

/** The public face of the document, whole, and nothing beside it. */
public final class FaceTest {
    private static final String INDEX = " throws java.lang.ArrayIndexOutOfBoundsException";
    private static final String BOTH = INDEX + ",java.lang.IllegalArgumentException";

    private static final Due due = new Due();

    public static void main(String[] args) {
        Class<?> face = ProofChecker.class;
        due.is("modifiers", Modifier.toString(face.getModifiers()), "public final");
        due.is("constructors", Arrays.toString(face.getDeclaredConstructors()),
                "[public ProofChecker(int,int,int)]");
        due.is("methods", methods(face), new TreeSet<>(Set.of(
                "public int ProofChecker.rule(int,int)",
                "public boolean ProofChecker.into(int,int)" + INDEX,
                "public boolean ProofChecker.answer(int,int)" + BOTH,
                "public int ProofChecker.test(int)" + INDEX,
                "public int ProofChecker.fails()",
                "public int ProofChecker.line(int,int)",
                "public boolean ProofChecker.literal(int,int,boolean)" + BOTH,
                "public boolean ProofChecker.drop()",
                "public int ProofChecker.check()",
                "public int ProofChecker.proves()",
                "public int ProofChecker.tell(int,int)" + INDEX,
                "public int ProofChecker.may(int)" + INDEX,
                "public boolean ProofChecker.unit(int)",
                "public int ProofChecker.read()")));
        due.is("extends", face.getSuperclass(), Object.class);
        due.is("implements", face.getInterfaces().length, 0);
        for (Field field : face.getDeclaredFields()) {
            due.is("private " + field.getName(), Modifier.isPrivate(field.getModifiers()), true);
        }
        privateNames(face);
        inside(face);
        due.end();
    }

    /** LANGUAGE.md, rule 1: no private method bears the name of a public one. */
    private static void privateNames(Class<?> face) {
        Set<String> names = new TreeSet<>();
        for (Method method : face.getDeclaredMethods()) {
            if (Modifier.isPublic(method.getModifiers())) {
                names.add(method.getName());
            }
        }
        due.is("public names", names.size(), 14);
        for (Method method : face.getDeclaredMethods()) {
            if (!Modifier.isPublic(method.getModifiers())) {
                due.is("a private " + method.getName(), names.contains(method.getName()), false);
            }
        }
    }

    /** LANGUAGE.md, rules 1 and 5: the classes inside are not to be seen, and hold no state of their own. */
    private static void inside(Class<?> face) {
        for (Class<?> inside : face.getDeclaredClasses()) {
            due.is(inside + ": private", Modifier.isPrivate(inside.getModifiers()), true);
            due.is(inside + ": static", Modifier.isStatic(inside.getModifiers()), true);
            for (Field field : inside.getDeclaredFields()) {
                boolean constant = Modifier.isFinal(field.getModifiers());
                due.is(field + ": final, if static", constant || !Modifier.isStatic(field.getModifiers()), true);
            }
        }
    }

    private static Set<String> methods(Class<?> face) {
        Set<String> found = new TreeSet<>();
        for (Method method : face.getDeclaredMethods()) {
            if (!Modifier.isPrivate(method.getModifiers())) {
                found.add(method.toString());
            }
        }
        return found;
    }
}
