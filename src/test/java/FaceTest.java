import java.lang.reflect.Constructor;
import java.lang.reflect.Field;
import java.lang.reflect.Method;
import java.lang.reflect.Modifier;
import java.util.Set;
import java.util.TreeSet;

/** The class has the document's face and nothing beside it that others could reach (LANGUAGE.md, rules 1 and 5). */
public final class FaceTest {
    private static final String I = " throws IndexOutOfBoundsException";
    private static final String IS = I + " IllegalStateException";
    private static final String IA = I + " IllegalArgumentException";
    private static final String IAS = IA + " IllegalStateException";
    private static final String[] FACE = {
        "int addGroup(int)" + IS,
        "int addRectangle(int int int int int)" + IAS,
        "int addDisc(int int int int)" + IAS,
        "int addTriangle(int int int int int int int)" + IAS,
        "int remove(int)" + IS,
        "int move(int int int)" + IS,
        "int node(int int)" + I,
        "int child(int int)" + I,
        "int count()",
        "int place(int int int)" + IA,
        "int setFill(int int)" + IA,
        "int setOpacity(int int boolean)" + IA,
        "boolean setClip(int int int int int)" + IA,
        "boolean setMask(int boolean)" + IS,
        "int setGround(int) throws IllegalArgumentException",
        "int value(int int)" + I,
        "int hit(int int)" + I,
        "boolean shows(int int int)" + I,
        "int extent(int int)" + I,
        "int changed(int)" + I,
        "int paint()",
        "int painted(int int)" + I,
        "double mean()",
        "long digest()",
    };

    private static String joined(Class<?>[] types) {
        StringBuilder all = new StringBuilder();
        for (Class<?> type : types) {
            all.append(all.length() == 0 ? "" : " ").append(type.getSimpleName());
        }
        return all.toString();
    }

    private static String told(Method m) {
        String thrown = joined(m.getExceptionTypes());
        return m.getReturnType().getSimpleName() + " " + m.getName() + "(" + joined(m.getParameterTypes()) + ")"
                + (thrown.isEmpty() ? "" : " throws " + thrown);
    }

    public static void main(String[] args) {
        int wrong = 0;
        Set<String> due = new TreeSet<>(Set.of(FACE));
        Set<String> got = new TreeSet<>();
        Set<String> names = new TreeSet<>();
        for (Method m : PaintLayers.class.getDeclaredMethods()) {
            if (Modifier.isPublic(m.getModifiers())) {
                got.add(told(m));
                names.add(m.getName());
            }
        }
        if (!due.equals(got)) {
            wrong++;
            System.out.println("public methods are " + got + ", due are " + due);
        }
        for (Method m : PaintLayers.class.getDeclaredMethods()) {
            boolean isReachable = !Modifier.isPrivate(m.getModifiers()) && !Modifier.isPublic(m.getModifiers());
            if (!m.isSynthetic() && (isReachable || Modifier.isPrivate(m.getModifiers()) && names.contains(m.getName()))) {
                wrong++;
                System.out.println(m + " is reachable, or bears a public one's name");
            }
        }
        for (Field f : PaintLayers.class.getDeclaredFields()) {
            boolean isChangeable = Modifier.isStatic(f.getModifiers()) && !Modifier.isFinal(f.getModifiers());
            if (!Modifier.isPrivate(f.getModifiers()) || isChangeable) {
                wrong++;
                System.out.println(f + " is reachable, or static and not final");
            }
        }
        Constructor<?>[] constructors = PaintLayers.class.getDeclaredConstructors();
        if (constructors.length != 1 || constructors[0].getParameterCount() != 0
                || !Modifier.isPublic(constructors[0].getModifiers())) {
            wrong++;
            System.out.println("the constructor is not the public one without parameters alone");
        }
        if (PaintLayers.class.getModifiers() != (Modifier.PUBLIC | Modifier.FINAL)) {
            wrong++;
            System.out.println("the class is not public and final");
        }
        System.out.println("the face: " + wrong + " faults");
        if (wrong != 0) {
            System.exit(1);
        }
    }
}
