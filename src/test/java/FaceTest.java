import java.lang.reflect.Constructor;
import java.lang.reflect.Field;
import java.lang.reflect.Member;
import java.lang.reflect.Method;
import java.lang.reflect.Modifier;
import java.util.Arrays;
import java.util.Set;
import java.util.TreeSet;

/** The class has the document's face, and no other member that is seen from outside. */
public final class FaceTest {
    private static final String[] DUE = {
        "int NONE", "CinnamonPeelers()", "int family(int)", "int garden(int)", "boolean set(int,int)",
        "boolean price(int,int)", "boolean rain(int,boolean)", "int cut(int,int,int,int,int)", "int pass(int)",
        "int strip(int,int)", "int ready(int)", "int dryOn(int)", "int join(int)", "int could(int)",
        "int most(int)", "int quill(int,int)", "int part(int,int)", "int bale(int,int)", "int baleOf(int,int)",
        "int about(int,int)", "int chest(int,int)", "int share(int,int)", "int traced(int,int,int)",
        "int count(int)", "int trouble()"};

    public static void main(String[] args) {
        Class<?> c = CinnamonPeelers.class;
        Set<String> seen = new TreeSet<>();
        Set<String> hidden = new TreeSet<>();
        for (Field f : c.getDeclaredFields()) {
            (isHidden(f) ? hidden : seen).add(f.getType() + " " + f.getName());
        }
        for (Constructor<?> k : c.getDeclaredConstructors()) {
            (isHidden(k) ? hidden : seen).add("CinnamonPeelers" + types(k.getParameterTypes()));
        }
        Set<String> names = new TreeSet<>();
        Set<String> hiddenNames = new TreeSet<>();
        for (Method m : c.getDeclaredMethods()) {
            (isHidden(m) ? hiddenNames : names).add(m.getName());
            (isHidden(m) ? hidden : seen).add(m.getReturnType() + " " + m.getName() + types(m.getParameterTypes()));
        }
        boolean good = expect("the face", seen, new TreeSet<>(Arrays.asList(DUE)));
        names.retainAll(hiddenNames);
        good &= expect("names that are both public and private", names, new TreeSet<>());
        good &= expect("public and final", Modifier.isPublic(c.getModifiers()) && Modifier.isFinal(c.getModifiers()), true);
        good &= expect("NONE", CinnamonPeelers.NONE, -1);
        for (Class<?> inside : c.getDeclaredClasses()) {
            good &= expect(inside + " is static", Modifier.isStatic(inside.getModifiers()), true);
        }
        System.out.println(good ? "the face is as due" : "the face is not as due");
        if (!good) {
            System.exit(1);
        }
    }

    private static boolean isHidden(Member m) {
        return Modifier.isPrivate(m.getModifiers());
    }

    private static String types(Class<?>[] types) {
        StringBuilder text = new StringBuilder("(");
        for (int i = 0; i < types.length; i++) {
            text.append(i == 0 ? "" : ",").append(types[i]);
        }
        return text.append(")").toString();
    }

    private static boolean expect(String what, Object got, Object due) {
        if (!got.equals(due)) {
            System.out.println(what + ": is " + got + ", due is " + due);
        }
        return got.equals(due);
    }
}
