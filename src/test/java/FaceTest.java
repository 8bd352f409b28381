import java.lang.reflect.Constructor;
import java.lang.reflect.Field;
import java.lang.reflect.Method;
import java.lang.reflect.Modifier;
import java.util.Arrays;
import java.util.Set;
import java.util.TreeSet;

/** The class shows the document's face and no more (LANGUAGE.md, rules 1 and 5). */
public final class FaceTest {
    private static final String[] FACE = {
        "int puzzle[int]", "int person[]", "boolean unit[int]", "int rules[]", "boolean start[int, int]",
        "int submit[int, int, int, int, boolean]", "boolean correct[int, boolean]", "boolean late[int]",
        "long score[int, int]", "long points[int, int]", "int place[int]", "boolean shared[int, int]",
        "int suspicious[int, int]", "int even[int, int]", "int apart[]"};
    private static int wrong = 0;

    private static void expect(boolean holds, String what) {
        if (!holds) {
            wrong++;
            System.out.println("not so: " + what);
        }
    }

    private static void checkMethods() {
        Set<String> seen = new TreeSet<>();
        Set<String> names = new TreeSet<>();
        for (Method m : ContestRows.class.getDeclaredMethods()) {
            if (!Modifier.isPrivate(m.getModifiers())) {
                expect(m.getModifiers() == Modifier.PUBLIC, "only public: " + m);
                seen.add(m.getReturnType() + " " + m.getName() + Arrays.toString(m.getParameterTypes()));
                names.add(m.getName());
            }
        }
        expect(seen.equals(new TreeSet<>(Arrays.asList(FACE))), "the methods are those of the face: " + seen);
        checkPrivateNames(ContestRows.class, names);
        for (Class<?> inside : ContestRows.class.getDeclaredClasses()) {
            checkPrivateNames(inside, names);
        }
    }

    private static void checkPrivateNames(Class<?> c, Set<String> names) {
        for (Method m : c.getDeclaredMethods()) {
            boolean ofFace = c == ContestRows.class && Modifier.isPublic(m.getModifiers());
            expect(ofFace || !names.contains(m.getName()), "another name than the face's: " + m);
        }
    }

    private static void checkFields(Class<?> c, boolean privateOnly) {
        for (Field f : c.getDeclaredFields()) {
            expect(!privateOnly || Modifier.isPrivate(f.getModifiers()), "private: " + f);
            expect(!Modifier.isStatic(f.getModifiers()) || Modifier.isFinal(f.getModifiers()), "final: " + f);
        }
    }

    public static void main(String[] args) {
        Class<?> c = ContestRows.class;
        expect(c.getModifiers() == (Modifier.PUBLIC | Modifier.FINAL), "the class is public and final");
        expect(c.getPackageName().isEmpty(), "no package");
        Constructor<?>[] made = c.getDeclaredConstructors();
        expect(made.length == 1 && made[0].getParameterCount() == 0, "one constructor without parameters");
        expect(Modifier.isPublic(made[0].getModifiers()), "the constructor is public");
        checkMethods();
        checkFields(c, true);
        for (Class<?> inside : c.getDeclaredClasses()) {
            int m = inside.getModifiers();
            expect(Modifier.isStatic(m), "static: " + inside);
            expect(!Modifier.isPublic(m) && !Modifier.isProtected(m), "not seen from outside: " + inside);
            checkFields(inside, false);
        }
        System.out.println(wrong == 0 ? "the face is as due" : wrong + " things are not as due");
        if (wrong != 0) {
            System.exit(1);
        }
    }
}
