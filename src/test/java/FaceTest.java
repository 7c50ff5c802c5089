import java.lang.reflect.Constructor;
import java.lang.reflect.Field;
import java.lang.reflect.Method;
import java.lang.reflect.Modifier;
import java.util.ArrayList;
import java.util.Arrays;
import java.util.Collections;
import java.util.List;

/** The public face of the document, no more and no less (rule 1 of LANGUAGE.md). */
public final class FaceTest {
    private static final String NO = " NoSuchElementException";
    private static final String IL = " IllegalArgumentException";
    private static final String[] METHODS = {
        "int feed(int,int,int,int,int)", "int shore(int)" + IL, "int fault()", "int count(int)" + NO,
        "int worth(int)" + NO, "int conditional(int,int)" + NO, "int person(int,int)" + NO,
        "int sundays(int)", "int has(int,int,boolean)" + NO, "int miss(int,int)" + NO,
        "boolean deny(int,boolean)" + NO, "int bridge(int)", "int undo()", "int crossing(int)" + IL,
        "int then(int,int,int)" + NO + IL, "int first(int)" + NO, "int waiting(int,int)" + NO + IL,
        "int toBear(int)" + IL, "int comes(int)" + IL, "int why(int,int)" + NO + IL,
        "int needed(int,int)" + NO + IL, "int fewest(int,int)" + NO + IL,
        "boolean leads(int,int)" + NO, "int like(int,int)" + NO, "int toSend(int)" + IL,
        "int happiest(int)" + NO, "int critical(int)" + NO, "int bestMissed(int)" + NO,
        "int common(int,int)" + NO, "int apart(int,int)" + NO, "int unhad()", "int resting()",
        "int sets(int)" + NO, "int toDeny(int,int)" + NO + IL, "int sources(int)" + NO,
        "int times(int,int)" + NO + IL, "int fullest(int,int)" + NO + IL,
        "int see(int,int,boolean)" + NO, "int tells(int)" + NO, "int look(int,int)" + NO,
        "void forget()", "int game(int,int,int)" + NO + IL, "int years(int,int,int)" + NO + IL,
        "void image()", "boolean restore()"};

    public static void main(String[] args) {
        Check check = new Check().promise("the face");
        List<String> due = new ArrayList<>(Arrays.asList(METHODS));
        List<String> got = new ArrayList<>();
        List<String> names = new ArrayList<>();
        for (Method m : RiverIfs.class.getDeclaredMethods()) {
            if (!Modifier.isPrivate(m.getModifiers())) {
                got.add(told(m));
                names.add(m.getName());
                check.same(m.getName() + " is public", Modifier.toString(m.getModifiers()), "public");
            }
        }
        Collections.sort(due);
        Collections.sort(got);
        check.same("methods", got, due);
        for (Method m : RiverIfs.class.getDeclaredMethods()) {
            check.same("the name of " + m, Modifier.isPrivate(m.getModifiers())
                    && names.contains(m.getName()), false);
        }
        for (Field f : RiverIfs.class.getDeclaredFields()) {
            String how = Modifier.toString(f.getModifiers());
            boolean fine = f.getName().equals("NONE") ? how.equals("public static final")
                    : how.startsWith("private");
            check.same("field " + f.getName(), fine, true);
            check.same("static and not final " + f.getName(), how.matches(".*static(?! final).*"),
                    false);
        }
        Constructor<?>[] constructors = RiverIfs.class.getDeclaredConstructors();
        check.same("constructors", constructors.length + " " + constructors[0].getParameterCount()
                + " " + Modifier.toString(constructors[0].getModifiers()), "1 0 public");
        check.same("class", Modifier.toString(RiverIfs.class.getModifiers()), "public final");
        check.same("above it", RiverIfs.class.getSuperclass(), Object.class);
        for (Class<?> inner : RiverIfs.class.getDeclaredClasses()) {
            check.same(inner.getName(), Modifier.toString(inner.getModifiers()),
                    "private static final");
            check.same("fields of " + inner.getName(), fieldsOf(inner) <= 20, true);
            for (Method m : inner.getDeclaredMethods()) {
                check.same("the name of " + m, names.contains(m.getName()), false);
            }
        }
        check.same("fields", fieldsOf(RiverIfs.class) <= 20, true);
        check.same("classes", RiverIfs.class.getDeclaredClasses().length + 1 <= 12, true);
        check.same("NONE", RiverIfs.NONE, -1);
        check.end();
    }

    private static String told(Method m) {
        StringBuilder text = new StringBuilder(m.getReturnType().getName()).append(' ');
        text.append(m.getName()).append('(');
        for (Class<?> c : m.getParameterTypes()) {
            text.append(text.charAt(text.length() - 1) == '(' ? "" : ",").append(c.getName());
        }
        text.append(')');
        for (Class<?> c : m.getExceptionTypes()) {
            text.append(' ').append(c.getSimpleName());
        }
        return text.toString();
    }

    private static int fieldsOf(Class<?> c) {
        int many = 0;
        for (Field f : c.getDeclaredFields()) {
            many += Modifier.isStatic(f.getModifiers()) ? 0 : 1;
        }
        return many;
    }
}
