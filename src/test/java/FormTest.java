import java.lang.reflect.Constructor;
import java.lang.reflect.Field;
import java.lang.reflect.Method;
import java.lang.reflect.Modifier;
import java.util.ArrayList;
import java.util.List;
import java.util.Set;

/** What LANGUAGE.md asks of the classes and their members, as far as the compiled classes show it. */
public final class FormTest {
    private static final int MOST_CLASSES = 12;
    private static final int MOST_FIELDS = 20;
    private static final int MOST_PARAMETERS = 7;
    private static final Set<Class<?>> CONSTANTS = Set.of(
            int.class, long.class, boolean.class, char.class, String.class,
            int[].class, long[].class, char[].class, byte[].class);

    private static int wrong = 0;

    public static void main(String[] args) {
        List<Class<?>> classes = new ArrayList<>();
        collect(CinnamonPeelers.class, classes);
        expect(classes.size() <= MOST_CLASSES, "rule 11: " + classes.size() + " classes");
        for (Class<?> c : classes) {
            if (c != CinnamonPeelers.class) {
                int m = c.getModifiers();
                expect(Modifier.isStatic(m) && !Modifier.isPublic(m) && !Modifier.isProtected(m), "rule 1: " + c);
                expect(!c.isLocalClass() && !c.isAnonymousClass(), "rule 2: " + c);
                expect(!RuntimeException.class.isAssignableFrom(c) && !Throwable.class.isAssignableFrom(c), "rule 6: " + c);
            }
            lookAtFields(c);
            lookAtMethods(c);
        }
        System.out.println(wrong == 0 ? "the form is as due" : wrong + " faults of form");
        if (wrong != 0) {
            System.exit(1);
        }
    }

    private static void collect(Class<?> c, List<Class<?>> classes) {
        classes.add(c);
        for (Class<?> inside : c.getDeclaredClasses()) {
            collect(inside, classes);
        }
    }

    private static void lookAtFields(Class<?> c) {
        int fields = 0;
        for (Field f : c.getDeclaredFields()) {
            if (Modifier.isStatic(f.getModifiers())) {
                boolean isOwnEnum = c.isEnum() && (f.getType() == c || f.getType() == c.arrayType());
                expect(Modifier.isFinal(f.getModifiers()), "rule 5: not final: " + f);
                expect(isOwnEnum || CONSTANTS.contains(f.getType()), "rule 5: " + f);
            } else {
                fields++;
                Class<?> type = f.getType();
                expect(!type.isArray() || !type.componentType().isArray()
                        || type.componentType().componentType().isPrimitive(), "rule 3: " + f);
            }
        }
        expect(fields <= MOST_FIELDS, "rule 11: " + fields + " fields in " + c);
    }

    private static void lookAtMethods(Class<?> c) {
        for (Method m : c.getDeclaredMethods()) {
            expect(m.getParameterCount() <= MOST_PARAMETERS, "rule 11: " + m);
            expect(!m.isSynthetic() || c.isEnum(), "rule 2: a lambda or the like: " + m);
            expect(!Modifier.isSynchronized(m.getModifiers()), "rule 6: " + m);
        }
        for (Constructor<?> k : c.getDeclaredConstructors()) {
            expect(k.getParameterCount() <= MOST_PARAMETERS, "rule 11: " + k);
        }
    }

    private static void expect(boolean isGood, String what) {
        if (!isGood) {
            wrong++;
            System.out.println(what);
        }
    }
}
