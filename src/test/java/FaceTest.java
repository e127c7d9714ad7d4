import java.lang.reflect.Constructor;
import java.lang.reflect.Field;
import java.lang.reflect.Method;
import java.lang.reflect.Modifier;
import java.util.Arrays;
import java.util.Set;
import java.util.TreeSet;

/** The public face is that of the document, and no more (LANGUAGE.md, rule 1). */
public final class FaceTest {

    private static final String INDEX = " IndexOutOfBoundsException";
    private static final String ARGUMENT = " IllegalArgumentException";
    private static final String STATE = " IllegalStateException";

    private static final String[] METHODS = {
        "int put 4" + INDEX + ARGUMENT, "int kinds 3" + INDEX + ARGUMENT, "int rope 2" + INDEX + ARGUMENT,
        "int on 2" + INDEX + ARGUMENT + STATE, "int off 2" + INDEX, "int climb 3" + INDEX + ARGUMENT,
        "int append 1" + ARGUMENT + STATE, "int clearBuffer 0", "int firstError 0", "int play 0" + ARGUMENT,
        "int undo 0" + STATE, "int ladder 2" + INDEX + ARGUMENT, "int person 3" + INDEX + ARGUMENT,
        "int force 2" + INDEX + ARGUMENT, "int held 2" + INDEX + ARGUMENT, "int count 1" + ARGUMENT,
        "int highest 2" + INDEX, "int neededRope 1" + INDEX, "int bestBase 1" + INDEX, "int riskiest 1" + INDEX,
        "int walls 1" + INDEX, "double safety 0", "long digest 0"};

    public static void main(String[] args) {
        Class<?> face = LadderClimb.class;
        Check.due("public and final", Modifier.PUBLIC | Modifier.FINAL, face.getModifiers());
        Check.due("no class above", 1, face.getSuperclass() == Object.class && face.getInterfaces().length == 0 ? 1 : 0);
        methods(face);
        fields(face);
        Constructor<?>[] constructors = face.getDeclaredConstructors();
        Check.due("constructors", 1, constructors.length);
        Check.due("the constructor's arguments", 0, constructors[0].getParameterCount());
        Check.due("the constructor is public", Modifier.PUBLIC, constructors[0].getModifiers());
        for (Class<?> inner : face.getDeclaredClasses()) {
            int modifiers = inner.getModifiers();
            if (Modifier.isPublic(modifiers) || Modifier.isProtected(modifiers) || !Modifier.isStatic(modifiers)) {
                Check.fault(inner + " is not a hidden static class");
            }
        }
        Check.end();
    }

    private static void methods(Class<?> face) {
        Set<String> got = new TreeSet<>();
        Set<String> names = new TreeSet<>();
        for (Method m : face.getDeclaredMethods()) {
            if (Modifier.isPublic(m.getModifiers())) {
                StringBuilder text = new StringBuilder(m.getReturnType() + " " + m.getName() + " " + m.getParameterCount());
                for (Class<?> e : m.getExceptionTypes()) {
                    text.append(' ').append(e.getSimpleName());
                }
                got.add(text.toString());
                names.add(m.getName());
            }
        }
        Set<String> want = new TreeSet<>(Arrays.asList(METHODS));
        if (!got.equals(want)) {
            Check.fault("the public methods are " + got + ", due are " + want);
        }
        for (Method m : face.getDeclaredMethods()) {
            if (!Modifier.isPublic(m.getModifiers()) && (!Modifier.isPrivate(m.getModifiers()) || names.contains(m.getName()))) {
                Check.fault(m + " is not private, or bears a public name");
            }
        }
    }

    private static void fields(Class<?> face) {
        int seen = 0;
        for (Field f : face.getDeclaredFields()) {
            if (f.getName().equals("NONE")) {
                seen++;
                Check.due("NONE", Modifier.PUBLIC | Modifier.STATIC | Modifier.FINAL, f.getModifiers());
            } else if (!Modifier.isPrivate(f.getModifiers())) {
                Check.fault(f + " is not private");
            } else if (Modifier.isStatic(f.getModifiers()) && !Modifier.isFinal(f.getModifiers())) {
                Check.fault(f + " is static and not final");
            }
        }
        Check.due("NONE is there", 1, seen);
    }
}
