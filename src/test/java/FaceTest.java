import java.lang.reflect.Field;
import java.lang.reflect.Method;
import java.lang.reflect.Modifier;
import java.util.Arrays;
import java.util.Set;
import java.util.TreeSet;

/** The public face of the document, whole, and nothing beside it. */
public final class FaceTest {
    private static final String INDEX = " throws java.lang.ArrayIndexOutOfBoundsException";
    private static final String BOTH = INDEX + ",java.lang.IllegalArgumentException";

    public static void main(String[] args) {
        Due due = new Due();
        Class<?> face = ProofChecker.class;
        due.is("modifiers", Modifier.toString(face.getModifiers()), "public final");
        due.is("constructors", Arrays.toString(face.getDeclaredConstructors()),
                "[public ProofChecker(int,int,int)]");
        due.is("methods", methods(face), new TreeSet<>(Set.of(
                "public int ProofChecker.rule(int,int)",
                "public boolean ProofChecker.into(int,int)" + INDEX,
                "public boolean ProofChecker.answer(int,int)" + BOTH,
                "public int ProofChecker.test(int)" + INDEX,
                "public int ProofChecker.fails()",
                "public int ProofChecker.line(int,int)",
                "public boolean ProofChecker.literal(int,int,boolean)" + BOTH,
                "public boolean ProofChecker.drop()",
                "public int ProofChecker.check()",
                "public int ProofChecker.proves()",
                "public int ProofChecker.tell(int,int)" + INDEX,
                "public int ProofChecker.may(int)" + INDEX,
                "public boolean ProofChecker.unit(int)",
                "public int ProofChecker.read()")));
        for (Field field : face.getDeclaredFields()) {
            due.is("private " + field.getName(), Modifier.isPrivate(field.getModifiers()), true);
        }
        due.end();
    }

    private static Set<String> methods(Class<?> face) {
        Set<String> found = new TreeSet<>();
        for (Method method : face.getDeclaredMethods()) {
            if (!Modifier.isPrivate(method.getModifiers())) {
                found.add(method.toString());
            }
        }
        return found;
    }
}
