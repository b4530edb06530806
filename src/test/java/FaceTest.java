import java.lang.reflect.Constructor;
import java.lang.reflect.Field;
import java.lang.reflect.Method;
import java.lang.reflect.Modifier;
import java.util.Set;
import java.util.TreeSet;

/** The public face is the document's and nothing more (LANGUAGE.md, rule 1). */
public final class FaceTest {
    private static final String[] DUE = {
        "int feed(int,int,int,int,int)", "int alp(int)", "int fault()", "int where()", "int sky(int)",
        "int light(int,int,boolean)", "int changes(int,boolean)", "int change(int,int)", "int peak()", "int due(int)",
        "int awake(int,int)", "int notices(int,int,int)", "int work(int,int)", "int worth(int)", "int turned(int,int)",
        "int up(int,int)", "int cheese(int,int)", "int vein(int,int)", "int cause(int,int)", "int total()",
        "int without(int)", "int wake()", "int wakeTotal()", "int fewest()", "int fewestBy()", "int fits(int)",
        "int by(int)", "int nights(int,int,int)", "boolean call(int,boolean)", "int calls()", "boolean cloud(int,int)",
        "int draw()", "boolean lift()", "boolean seed(int)", "boolean undo()", "int mark()", "boolean back(int)",
        "int event(int,int)", "int led(int)", "int size(int)", "int trouble()"};

    public static void main(String[] args) {
        Check check = new Check("FaceTest");
        Set<String> due = new TreeSet<>(Set.of(DUE));
        Set<String> seen = new TreeSet<>();
        Set<String> publicNames = new TreeSet<>();
        for (Method m : EclipseCheese.class.getDeclaredMethods()) {
            if (!Modifier.isPrivate(m.getModifiers()) && !m.isSynthetic()) {
                seen.add(told(m));
                publicNames.add(m.getName());
                check.same(m.getName() + " is public", Modifier.isPublic(m.getModifiers()), true);
            }
        }
        check.same("methods " + seen, seen.equals(due), true);
        for (Method m : EclipseCheese.class.getDeclaredMethods()) {
            if (Modifier.isPrivate(m.getModifiers())) {
                check.same("private " + m.getName(), publicNames.contains(m.getName()), false);
            }
        }
        for (Field f : EclipseCheese.class.getDeclaredFields()) {
            boolean none = f.getName().equals("NONE");
            check.same("private field " + f.getName(), Modifier.isPrivate(f.getModifiers()), !none);
            if (Modifier.isStatic(f.getModifiers())) {
                check.same("final field " + f.getName(), Modifier.isFinal(f.getModifiers()), true);
            }
        }
        Constructor<?>[] made = EclipseCheese.class.getDeclaredConstructors();
        check.same("constructors", made.length, 1);
        check.same("its parameters", made[0].getParameterCount(), 0);
        check.same("public constructor", Modifier.isPublic(made[0].getModifiers()), true);
        check.same("final", Modifier.isFinal(EclipseCheese.class.getModifiers()), true);
        check.same("classes", EclipseCheese.class.getDeclaredClasses().length <= 12, true);
        check.same("NONE", EclipseCheese.NONE, -1);
        check.end();
    }

    private static String told(Method m) {
        StringBuilder text = new StringBuilder();
        text.append(m.getReturnType().getName()).append(' ').append(m.getName()).append('(');
        for (int i = 0; i < m.getParameterCount(); i++) {
            text.append(i == 0 ? "" : ",").append(m.getParameterTypes()[i].getName());
        }
        return text.append(')').toString();
    }
}
