import java.lang.reflect.Constructor;
import java.lang.reflect.Field;
import java.lang.reflect.Method;
import java.lang.reflect.Modifier;
import java.util.Set;
import java.util.TreeSet;

/** The public face, and that nothing else of the class is to be seen from outside. */
public final class FaceTest {
    private static final Set<String> FACE = Set.of(
        "public boolean KindNumbers.has(int,long)",
        "public boolean KindNumbers.widens(int,int)",
        "public long KindNumbers.cast(int,int,long)",
        "public long KindNumbers.work(int,int,long,int,long)",
        "public long KindNumbers.shift(int,int,long,long)",
        "public int KindNumbers.compare(int,long,int,long)",
        "public int KindNumbers.order(int,long,long)",
        "public int KindNumbers.failed()");

    public static void main(String[] args) {
        Due due = new Due();
        due.sentence("The public face");
        due.is("the modifiers", KindNumbers.class.getModifiers(), Modifier.PUBLIC | Modifier.FINAL);
        Set<String> seen = new TreeSet<>();
        for (Method method : KindNumbers.class.getDeclaredMethods()) {
            if (!Modifier.isPrivate(method.getModifiers())) {
                seen.add(method.toString());
            }
        }
        due.is("the methods are those of the face: " + seen, seen.equals(FACE), true);
        for (Field field : KindNumbers.class.getDeclaredFields()) {
            due.is(field + " is private", Modifier.isPrivate(field.getModifiers()), true);
        }
        Constructor<?>[] constructors = KindNumbers.class.getDeclaredConstructors();
        due.is("the constructors", constructors.length, 1);
        due.is(constructors[0].toString(), constructors[0].toString().equals("public KindNumbers()"), true);
        due.end();
    }
}
