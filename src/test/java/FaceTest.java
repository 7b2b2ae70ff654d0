import java.lang.reflect.Constructor;
import java.lang.reflect.Field;
import java.lang.reflect.Method;
import java.lang.reflect.Modifier;
import java.util.Set;
import java.util.TreeSet;

/** The public face is the document's, and no other member can be seen from outside. */
public final class FaceTest {
    private static final String[] METHODS = {
        "person(int,int)", "rule(int)", "wants(int,int)", "of(int,int)", "at(int,int)", "type(int)", "college()",
        "count(int)", "days(int)", "talk(int,int,int)", "give(int,int)", "drift(int)", "undo()", "seed(int)",
        "keeper(int,int)", "ahead(int,int,int)", "then(int)", "in(int)", "holds(int)", "had(int,int)",
        "keep(int,int)", "tempt(int,int)", "strict(int)", "yawn(int,int,int)", "image()", "restore()",
        "told(int,int,int,int,int,int,int)", "film(int,int,int,int,int,int)", "sheet(int,int,int)", "drop(int)",
        "item(int,int,int,long)", "copy(int,int,int,int,int)"};
    private static final String[] CONSTANTS = {
        "BAD", "NOT", "FULL", "NONE", "NULL", "CAST", "INDEX", "SIZE"};
    private static final int[] VALUES = {-1, -2, -3, -4, -11, -12, -13, -14};

    public static void main(String[] args) throws Exception {
        Due d = new Due("FaceTest");
        d.due("public final", YawnKeys.class.getModifiers() & (Modifier.PUBLIC | Modifier.FINAL),
                Modifier.PUBLIC | Modifier.FINAL);
        methods(d);
        constants(d);
        Constructor<?>[] made = YawnKeys.class.getDeclaredConstructors();
        d.due("constructors", made.length, 1);
        d.due("its parameters", made[0].getParameterCount(), 0);
        d.due("it is public", made[0].getModifiers(), Modifier.PUBLIC);
        for (Class<?> inside : YawnKeys.class.getDeclaredClasses()) {
            d.due(inside + " is static", inside.getModifiers() & Modifier.STATIC, Modifier.STATIC);
        }
        d.end();
    }

    private static void methods(Due d) {
        Set<String> due = new TreeSet<>(Set.of(METHODS));
        Set<String> names = new TreeSet<>();
        for (String method : METHODS) {
            names.add(method.substring(0, method.indexOf('(')));
        }
        Set<String> seen = new TreeSet<>();
        for (Method m : YawnKeys.class.getDeclaredMethods()) {
            if (Modifier.isPrivate(m.getModifiers())) {
                d.due("private " + m.getName() + " has a name of the face", names.contains(m.getName()) ? 1 : 0, 0);
                continue;
            }
            StringBuilder face = new StringBuilder(m.getName()).append('(');
            for (Class<?> type : m.getParameterTypes()) {
                face.append(face.charAt(face.length() - 1) == '(' ? "" : ",").append(type.getName());
            }
            seen.add(face.append(')').toString());
            d.due(m + " is public and answers int",
                    m.getReturnType() == int.class && m.getModifiers() == Modifier.PUBLIC ? 1 : 0, 1);
        }
        d.due("methods " + seen, seen.equals(due) ? 1 : 0, 1);
    }

    private static void constants(Due d) throws Exception {
        for (int i = 0; i < CONSTANTS.length; i++) {
            Field f = YawnKeys.class.getField(CONSTANTS[i]);
            d.due(CONSTANTS[i], f.getInt(null), VALUES[i]);
        }
        int seen = 0;
        for (Field f : YawnKeys.class.getDeclaredFields()) {
            seen += Modifier.isPrivate(f.getModifiers()) ? 0 : 1;
        }
        d.due("fields seen from outside", seen, CONSTANTS.length);
    }
}
