import java.lang.reflect.Constructor;
import java.lang.reflect.Field;
import java.lang.reflect.Method;
import java.lang.reflect.Modifier;
import java.util.Set;
import java.util.TreeSet;

/** The public face is the document's, and nothing else can be seen. */
public final class FaceTest {
    private static final String[] METHODS = {
        "type(int)", "clear()", "tells()", "sends(int)", "flips(int)", "undo()", "step(int,int)",
        "arc(int,int,int)", "state(int,int)", "weight(int,int,int)", "rows(int)", "word(int,int)",
        "wrong(int)", "sees(int)", "forget()", "which(int)", "ask()", "keep(int)", "back(int)", "count(int)"};

    public static void main(String[] args) {
        Check check = new Check("FaceTest");
        Class<?> face = BannedRows.class;
        check.holds("public", Modifier.isPublic(face.getModifiers()));
        check.holds("final", Modifier.isFinal(face.getModifiers()));
        check.holds("no package", face.getPackageName().isEmpty());
        methods(check, face);
        constructors(check, face);
        fields(check, face);
        check.due("BAD", BannedRows.BAD, -1);
        check.due("STATE", BannedRows.STATE, -2);
        check.due("FULL", BannedRows.FULL, -3);
        check.due("NONE", BannedRows.NONE, -9);
        nested(check, face);
        check.end();
    }

    private static void methods(Check check, Class<?> face) {
        Set<String> want = new TreeSet<>(Set.of(METHODS));
        Set<String> got = new TreeSet<>();
        Set<String> publicNames = new TreeSet<>();
        for (Method m : face.getDeclaredMethods()) {
            if (Modifier.isPrivate(m.getModifiers()) || m.isSynthetic()) {
                continue;
            }
            got.add(signature(m));
            publicNames.add(m.getName());
            check.holds(m.getName() + " is public", Modifier.isPublic(m.getModifiers()));
            check.holds(m.getName() + " is not static", !Modifier.isStatic(m.getModifiers()));
            check.holds(m.getName() + " answers an int", m.getReturnType() == int.class);
        }
        check.holds("methods " + got, got.equals(want));
        for (Method m : face.getDeclaredMethods()) {
            if (Modifier.isPrivate(m.getModifiers())) {
                check.holds(m.getName() + " is no public name", !publicNames.contains(m.getName()));
            }
        }
    }

    private static String signature(Method m) {
        StringBuilder text = new StringBuilder(m.getName()).append('(');
        for (Class<?> type : m.getParameterTypes()) {
            text.append(text.charAt(text.length() - 1) == '(' ? "" : ",").append(type.getName());
        }
        return text.append(')').toString();
    }

    private static void constructors(Check check, Class<?> face) {
        Constructor<?>[] all = face.getDeclaredConstructors();
        check.due("constructors", all.length, 1);
        check.holds("the constructor is public", Modifier.isPublic(all[0].getModifiers()));
        check.due("its parameters", all[0].getParameterCount(), 0);
    }

    private static void fields(Check check, Class<?> face) {
        Set<String> constants = Set.of("BAD", "STATE", "FULL", "NONE");
        int found = 0;
        for (Field f : face.getDeclaredFields()) {
            int is = f.getModifiers();
            if (constants.contains(f.getName())) {
                found++;
                check.holds(f.getName() + " is public static final",
                        Modifier.isPublic(is) && Modifier.isStatic(is) && Modifier.isFinal(is));
                check.holds(f.getName() + " is an int", f.getType() == int.class);
            } else {
                check.holds(f.getName() + " is private", Modifier.isPrivate(is));
                check.holds(f.getName() + " is no changing static", !Modifier.isStatic(is) || Modifier.isFinal(is));
            }
        }
        check.due("constants", found, 4);
    }

    private static void nested(Check check, Class<?> face) {
        Class<?>[] all = face.getDeclaredClasses();
        check.holds("at most twelve classes", all.length < 12);
        for (Class<?> inside : all) {
            check.holds(inside.getName() + " is static", Modifier.isStatic(inside.getModifiers()));
            check.holds(inside.getName() + " is not public", !Modifier.isPublic(inside.getModifiers()));
            check.holds(inside.getName() + " is not protected", !Modifier.isProtected(inside.getModifiers()));
            for (Method m : inside.getDeclaredMethods()) {
                check.holds(m.getName() + " has at most 7 parameters", m.getParameterCount() <= 7);
                for (Method of : face.getMethods()) {
                    check.holds(m.getName() + " is no name of the face",
                            of.getDeclaringClass() != face || !of.getName().equals(m.getName()));
                }
            }
        }
    }
}
