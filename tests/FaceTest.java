import java.lang.reflect.Constructor;
import java.lang.reflect.Field;
import java.lang.reflect.Method;
import java.lang.reflect.Modifier;
import java.util.Arrays;
import java.util.Set;
import java.util.TreeSet;

/** The public face, to the letter, and what LANGUAGE.md asks that the compiled class shows. */
public final class FaceTest {
    private static final String FACE = "int about(int,int)|int anchor(int,int,int,int)|int copy(int,int,int,int,int)|int count(int)"
        + "|long cross(int,int)|long digest()|int drop(int)|int fill(int,int)|int fix(int,int)|long force(int,int,int)"
        + "|long get(int,int)|int groups(int,long,int)|int heading(int,int,int,int)|int hear(int)|int lose(int,int)|int miss(int)"
        + "|int mix(int,int,int,int)|long number(int,int)|int part(int,int,int)|int put(int,int,int)|int raise(int,int)"
        + "|int receive(int)|int rule(int,int,int)|int send(int)|int sheet(int,int,int)|int spikes(int,int)|int stands(int,int)"
        + "|long third(int,int)|int turn(int,int)|long wave(int,int,int)|int waves(int)";
    private static final String CONSTANTS = "BAD=-2|FAILED=-5000000000000000000|FAR=-16|LOST=-15|NO=-3|NONE=-1|NOTHING=-10"
        + "|PLACE=-13|SIZE=-12|UNLIKE=-11|WIDE=-14";
    private static final Due DUE = new Due();

    public static void main(String[] args) throws Exception {
        Class<?> face = WaveBuoys.class;
        DUE.is("public and final", face.getModifiers(), Modifier.PUBLIC | Modifier.FINAL);
        alike("methods", publicMethods(face), FACE);
        alike("constants", publicConstants(face), CONSTANTS);
        Constructor<?>[] makers = face.getDeclaredConstructors();
        DUE.is("constructors", makers.length, 1);
        DUE.is("public, of nothing", Modifier.isPublic(makers[0].getModifiers()) ? makers[0].getParameterCount() : -1, 0);
        members(face);
        Class<?>[] inside = face.getDeclaredClasses();
        DUE.holds("at most twelve classes", inside.length + 1 <= 12);
        for (Class<?> c : inside) {
            int m = c.getModifiers();
            DUE.holds(c + " is static and not public", Modifier.isStatic(m) && !Modifier.isPublic(m) && !Modifier.isProtected(m));
            sizes(c);
        }
        sizes(face);
        DUE.end();
    }

    private static void alike(String what, Set<String> got, String want) {
        Set<String> due = new TreeSet<>(Arrays.asList(want.split("\\|")));
        if (!got.equals(due)) {
            System.out.println(what + " are " + got + ", due are " + due);
        }
        DUE.holds(what + " as told", got.equals(due));
    }

    private static String told(Method m) {
        StringBuilder types = new StringBuilder();
        for (Class<?> type : m.getParameterTypes()) {
            types.append(types.length() > 0 ? "," : "").append(type.getSimpleName());
        }
        return m.getReturnType().getSimpleName() + " " + m.getName() + "(" + types + ")";
    }

    private static Set<String> publicMethods(Class<?> face) {
        Set<String> found = new TreeSet<>();
        for (Method m : face.getDeclaredMethods()) {
            if (Modifier.isPublic(m.getModifiers()) && !Modifier.isStatic(m.getModifiers())) {
                found.add(told(m));
            }
        }
        return found;
    }

    private static Set<String> publicConstants(Class<?> face) throws Exception {
        Set<String> found = new TreeSet<>();
        for (Field f : face.getDeclaredFields()) {
            int m = f.getModifiers();
            if (Modifier.isPublic(m) && Modifier.isStatic(m) && Modifier.isFinal(m)) {
                boolean wide = f.getName().equals("FAILED");
                DUE.holds(f + " is of its type", f.getType() == (wide ? long.class : int.class));
                found.add(f.getName() + "=" + f.get(null));
            }
        }
        return found;
    }

    /** All that is not of the face is private and bears no name of it. */
    private static void members(Class<?> face) {
        for (Method m : face.getDeclaredMethods()) {
            boolean ofTheFace = Arrays.asList(FACE.split("\\|")).contains(told(m)) && Modifier.isPublic(m.getModifiers());
            if (!ofTheFace) {
                DUE.holds(m + " is private", Modifier.isPrivate(m.getModifiers()));
                DUE.holds(m + " has a name of its own", !("|" + FACE).matches(".* " + m.getName() + "\\(.*"));
            }
        }
        for (Field f : face.getDeclaredFields()) {
            boolean ofTheFace = Modifier.isPublic(f.getModifiers()) && CONSTANTS.contains(f.getName() + "=");
            DUE.holds(f + " is private", ofTheFace || Modifier.isPrivate(f.getModifiers()));
        }
    }

    private static void sizes(Class<?> c) {
        int own = 0;
        for (Field f : c.getDeclaredFields()) {
            boolean constant = Modifier.isStatic(f.getModifiers());
            own += constant ? 0 : 1;
            DUE.holds(f + " is final, if it is static", !constant || Modifier.isFinal(f.getModifiers()));
        }
        DUE.holds(c + " has at most twenty fields", own <= 20);
        for (Method m : c.getDeclaredMethods()) {
            DUE.holds(m + " takes at most seven", m.getParameterCount() <= 7);
            DUE.holds(m + " is no lambda", !m.isSynthetic());
        }
    }
}
