import java.lang.reflect.Constructor;
import java.lang.reflect.Field;
import java.lang.reflect.Method;
import java.lang.reflect.Modifier;
import java.util.Set;
import java.util.TreeSet;

/** The class shows the document's face and nothing else. */
final class FaceTest {
    private static final String INDEX = " IndexOutOfBoundsException";
    private static final String ARGUMENT = " IllegalArgumentException";
    private static final String STATE = " IllegalStateException";

    private static final String[] FACE = {
        "int make(int,int,int)" + INDEX + ARGUMENT,
        "int set(int,int,int)" + INDEX + ARGUMENT,
        "int tag(int,int,int)" + INDEX + ARGUMENT + STATE,
        "int swap(int,int,int)" + INDEX,
        "int add(int,int)" + INDEX + ARGUMENT,
        "int fill(int,int,int,int)" + INDEX + ARGUMENT,
        "int ramp(int,int,int,int)" + INDEX + ARGUMENT,
        "int resize(int,int)" + INDEX + ARGUMENT,
        "int sort(int)" + INDEX,
        "int sortPart(int,int,int)" + INDEX,
        "int sortHalves(int,int)" + INDEX,
        "int sortBy(int,int)" + INDEX + ARGUMENT + STATE,
        "int rise(int)" + INDEX,
        "int copy(int,int)" + INDEX,
        "int copyPart(int,int,int,int)" + INDEX,
        "int merge(int,int)" + INDEX,
        "int compare(int,int)" + INDEX,
        "int mismatch(int,int)" + INDEX,
        "boolean areEqual(int,int)" + INDEX,
        "boolean areAlike(int,int)" + INDEX,
        "int kind(int)" + INDEX,
        "int size(int)" + INDEX,
        "int at(int,int)" + INDEX,
        "int tagAt(int,int)" + INDEX + STATE,
        "String text(int)" + INDEX,
        "String tags(int)" + INDEX,
        "boolean isRising(int)" + INDEX,
        "int inversions(int)" + INDEX,
        "int inversionsAt(int,int)" + INDEX,
        "int smaller(int,int)" + INDEX + ARGUMENT,
        "int likes(int,int)" + INDEX + ARGUMENT,
        "int greater(int,int)" + INDEX + ARGUMENT,
        "int search(int,int)" + INDEX + ARGUMENT + STATE,
        "int searchPart(int,int,int,int)" + INDEX + ARGUMENT + STATE,
        "int last(int,int)" + INDEX + ARGUMENT + STATE,
        "int nth(int,int)" + INDEX,
        "int median(int)" + INDEX + STATE,
        "int unlike(int)" + INDEX,
        "int mode(int)" + INDEX + STATE,
        "int hash(int)" + INDEX,
        "int house(int)" + ARGUMENT,
        "int knock()",
        "boolean isSound()",
        "long digest()",
    };

    private static String told(Method m) {
        StringBuilder text = new StringBuilder(m.getReturnType().getSimpleName());
        text.append(' ').append(m.getName()).append('(');
        for (Class<?> type : m.getParameterTypes()) {
            text.append(text.charAt(text.length() - 1) == '(' ? "" : ",").append(type.getSimpleName());
        }
        text.append(')');
        for (Class<?> type : m.getExceptionTypes()) {
            text.append(' ').append(type.getSimpleName());
        }
        return text.toString();
    }

    public static void main(String[] args) {
        Check c = new Check("FaceTest");
        Set<String> shown = new TreeSet<>();
        Set<String> names = new TreeSet<>();
        for (Method m : Risingbag.class.getDeclaredMethods()) {
            if (!Modifier.isPrivate(m.getModifiers())) {
                c.same(m.getName() + " is public and not static", m.getModifiers(), Modifier.PUBLIC);
                shown.add(told(m));
                names.add(m.getName());
            }
        }
        c.same("the public methods", shown, new TreeSet<>(Set.of(FACE)));
        hidden(c, Risingbag.class, names);
        for (Class<?> inner : Risingbag.class.getDeclaredClasses()) {
            c.same(inner.getName() + " is static", Modifier.isStatic(inner.getModifiers()), true);
            c.same(inner.getName() + " is not public", Modifier.isPublic(inner.getModifiers()), false);
            hidden(c, inner, names);
        }
        for (Field f : Risingbag.class.getDeclaredFields()) {
            c.same(f.getName() + " is private", Modifier.isPrivate(f.getModifiers()), true);
        }
        Constructor<?>[] constructors = Risingbag.class.getDeclaredConstructors();
        c.same("how many constructors", constructors.length, 1);
        c.same("the constructor is public", Modifier.isPublic(constructors[0].getModifiers()), true);
        c.same("its parameters", constructors[0].getParameterCount(), 0);
        c.same("the class is public and final", Risingbag.class.getModifiers(), Modifier.PUBLIC | Modifier.FINAL);
        c.end();
    }

    private static void hidden(Check c, Class<?> type, Set<String> names) {
        for (Method m : type.getDeclaredMethods()) {
            if (!Modifier.isPublic(m.getModifiers())) {
                c.same(m.getName() + " bears the name of a public method", names.contains(m.getName()), false);
            }
        }
        for (Field f : type.getDeclaredFields()) {
            if (Modifier.isStatic(f.getModifiers())) {
                c.same(f.getName() + " is final", Modifier.isFinal(f.getModifiers()), true);
            }
        }
    }
}
