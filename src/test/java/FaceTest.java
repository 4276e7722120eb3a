import java.lang.reflect.Constructor;
import java.lang.reflect.Field;
import java.lang.reflect.Method;
import java.lang.reflect.Modifier;
import java.util.Set;
import java.util.TreeSet;

/** The public face, and that nothing else of the class is to be seen from outside. */
public final class FaceTest {
    private static final Due DUE = new Due();
    private static final Class<KindNumbers> CLASS = KindNumbers.class;
    private static final Set<String> FACE = Set.of(
        "public boolean KindNumbers.has(int,long)",
        "public boolean KindNumbers.widens(int,int)",
        "public long KindNumbers.cast(int,int,long)",
        "public long KindNumbers.work(int,int,long,int,long)",
        "public long KindNumbers.shift(int,int,long,long)",
        "public int KindNumbers.compare(int,long,int,long)",
        "public int KindNumbers.order(int,long,long)",
        "public int KindNumbers.failed()");

    private static void theClass() {
        DUE.sentence("public final class KindNumbers");
        DUE.is("the modifiers", CLASS.getModifiers(), Modifier.PUBLIC | Modifier.FINAL);
        DUE.is("it has no package", CLASS.getPackageName().isEmpty(), true);
        DUE.is("it extends nothing", CLASS.getSuperclass() == Object.class, true);
        DUE.is("it implements nothing", CLASS.getInterfaces().length, 0);
    }

    private static void theConstructor() {
        DUE.sentence("public KindNumbers();");
        Constructor<?>[] constructors = CLASS.getDeclaredConstructors();
        DUE.is("the constructors", constructors.length, 1);
        DUE.is(constructors[0].toString(), constructors[0].toString().equals("public KindNumbers()"), true);
    }

    private static void theMethods() {
        DUE.sentence("The public face: eight methods, and no other");
        Set<String> seen = new TreeSet<>();
        for (Method method : CLASS.getDeclaredMethods()) {
            if (!Modifier.isPrivate(method.getModifiers())) {
                seen.add(method.toString());
            }
        }
        DUE.is("the methods are those of the face: " + seen, seen.equals(FACE), true);
    }

    private static void nothingElse() {
        DUE.sentence("The public face: no field and no class of it is public");
        for (Field field : CLASS.getDeclaredFields()) {
            DUE.is(field + " is private", Modifier.isPrivate(field.getModifiers()), true);
        }
        DUE.is("public classes inside", CLASS.getClasses().length, 0);
    }

    private static void noStateIsShared() {
        DUE.sentence("rule 5 of LANGUAGE.md: static fields are final");
        for (Field field : CLASS.getDeclaredFields()) {
            int modifiers = field.getModifiers();
            DUE.is(field + " is final", Modifier.isStatic(modifiers) && !Modifier.isFinal(modifiers), false);
        }
    }

    public static void main(String[] args) {
        theClass();
        theConstructor();
        theMethods();
        nothingElse();
        noStateIsShared();
        DUE.end();
    }
}
