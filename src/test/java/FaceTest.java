import java.lang.reflect.Constructor;
import java.lang.reflect.Field;
import java.lang.reflect.Method;
import java.lang.reflect.Modifier;
import java.util.Arrays;
import java.util.TreeSet;

/** The public face, and the rules of LANGUAGE.md that reflection can see. */
public final class FaceTest {
    private static final String[] FACE = {
        "int card(int)", "int cards(int,int,int)", "int mend(int,int,int)", "int of(int,int)", "int feed(int)",
        "int law()", "int weight(int,int)", "long shown(int,int)", "long other(int,int)",
        "long which(int,int,int)", "long again(int,int)", "int cheated(int)", "int judge(int)",
        "long handed(int,int,int)", "long ill(int,int)", "long order(int,int)", "long isSo(int,int)",
        "long tooMany(int,int)", "long next(int,int)", "int sure(int)", "int drawn(int,int,int)",
        "int draw(int)", "int putBack()", "int image()", "int back()", "int undo()", "int redo()",
        "int body(int)", "int act(int,int,int)", "int trace(int)", "int keep(int,int)", "int row(int,int,int)",
        "int put(int,int,long)", "long element(int,int)", "int shift(int,int,int,int,int)", "int taken(int,int)",
        "int count(int)"};
    private static final String[] CONSTANTS = {"BAD", "FULL", "NOT", "STATE", "VOID"};

    public static void main(String[] args) {
        Check.due("BAD", OtherSide.BAD, -1);
        Check.due("NOT", OtherSide.NOT, -2);
        Check.due("FULL", OtherSide.FULL, -3);
        Check.due("STATE", OtherSide.STATE, -5);
        Check.due("VOID", OtherSide.VOID, -2000000000);
        Class<?> face = OtherSide.class;
        Check.so("public and final", Modifier.isPublic(face.getModifiers()) && Modifier.isFinal(face.getModifiers()));
        methods(face);
        fields(face);
        Constructor<?>[] made = face.getDeclaredConstructors();
        Check.so("one public constructor without arguments",
            made.length == 1 && Modifier.isPublic(made[0].getModifiers()) && made[0].getParameterCount() == 0);
        Class<?>[] inside = face.getDeclaredClasses();
        Check.so("at most twelve classes", inside.length + 1 <= 12);
        for (Class<?> c : inside) {
            insideClass(face, c);
        }
        Check.end("FaceTest");
    }

    private static void methods(Class<?> face) {
        TreeSet<String> told = new TreeSet<>(Arrays.asList(FACE));
        TreeSet<String> seen = new TreeSet<>();
        TreeSet<String> publicNames = new TreeSet<>();
        for (Method m : face.getDeclaredMethods()) {
            if (Modifier.isPublic(m.getModifiers())) {
                seen.add(written(m));
                publicNames.add(m.getName());
            }
        }
        Check.so("the public methods are " + seen, told.equals(seen));
        for (Method m : face.getDeclaredMethods()) {
            if (!Modifier.isPublic(m.getModifiers())) {
                Check.so(m.getName() + " is private", Modifier.isPrivate(m.getModifiers()));
                Check.so(m.getName() + " is no public name", !publicNames.contains(m.getName()));
            }
        }
    }

    private static String written(Method m) {
        StringBuilder b = new StringBuilder(m.getReturnType() + " " + m.getName() + "(");
        for (Class<?> p : m.getParameterTypes()) {
            b.append(b.charAt(b.length() - 1) == '(' ? "" : ",").append(p);
        }
        return b.append(")").toString();
    }

    private static void fields(Class<?> face) {
        TreeSet<String> seen = new TreeSet<>();
        for (Field f : face.getDeclaredFields()) {
            if (Modifier.isPublic(f.getModifiers())) {
                seen.add(f.getName());
            } else {
                Check.so(f.getName() + " is private", Modifier.isPrivate(f.getModifiers()));
            }
            staticIsFinal(f);
        }
        Check.so("the constants are " + seen, seen.equals(new TreeSet<>(Arrays.asList(CONSTANTS))));
    }

    private static void insideClass(Class<?> face, Class<?> c) {
        Check.so(c + " is static", Modifier.isStatic(c.getModifiers()));
        Check.so(c + " is not public", !Modifier.isPublic(c.getModifiers()));
        int fields = 0;
        for (Field f : c.getDeclaredFields()) {
            staticIsFinal(f);
            fields += Modifier.isStatic(f.getModifiers()) ? 0 : 1;
        }
        Check.so(c + " has at most twenty fields", fields <= 20);
        for (Method m : c.getDeclaredMethods()) {
            Check.so(m + " takes at most seven", m.getParameterCount() <= 7);
            for (Method p : face.getDeclaredMethods()) {
                Check.so(m + " is no name of the face",
                    !Modifier.isPublic(p.getModifiers()) || !p.getName().equals(m.getName()));
            }
        }
    }

    private static void staticIsFinal(Field f) {
        if (Modifier.isStatic(f.getModifiers())) {
            Check.so(f + " is final", Modifier.isFinal(f.getModifiers()));
        }
    }
}
