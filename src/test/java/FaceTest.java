import java.io.IOException;
import java.lang.reflect.Constructor;
import java.lang.reflect.Field;
import java.lang.reflect.Method;
import java.lang.reflect.Modifier;
import java.nio.file.Files;
import java.nio.file.Path;
import java.util.ArrayList;
import java.util.List;
import java.util.NoSuchElementException;
import java.util.Set;
import java.util.TreeSet;
import java.util.regex.Matcher;
import java.util.regex.Pattern;

/** The public face is the document's and nothing more (LANGUAGE.md, rule 1), its parts under the names that the document tells. */
public final class FaceTest {
    private static final String[] DUE = {
        "int feed(int,int,int,int,int)", "int alp(int)", "int fault()", "int where()", "int sky(int)",
        "int light(int,int,boolean)", "int changes(int,boolean)", "int change(int,int)", "int peak()", "int due(int)",
        "int awake(int,int)", "int notices(int,int,int)", "int work(int,int)", "int worth(int)", "int turned(int,int)",
        "int up(int,int)", "int cheese(int,int)", "int vein(int,int)", "int cause(int,int)", "int total()",
        "int without(int)", "int wake()", "int wakeTotal()", "int fewest()", "int fewestBy()", "int fits(int)",
        "int by(int)", "int nights(int,int,int)", "boolean call(int,boolean)", "int calls()", "boolean cloud(int,int)",
        "int draw()", "boolean lift()", "boolean seed(int)", "boolean undo()", "int mark()", "boolean back(int)",
        "int event(int,int)", "int led(int)", "int size(int)", "int trouble()"};

    private static final Path SOURCE = Path.of("src", "main", "java", "EclipseCheese.java");
    private static final Path DOCUMENT = Path.of("..", "shared", "DOC.md");

    public static void main(String[] args) throws IOException {
        Check check = new Check("FaceTest");
        members(check);
        exceptions(check);
        parts(check);
        check.end();
    }

    private static void members(Check check) {
        Set<String> due = new TreeSet<>(Set.of(DUE));
        Set<String> seen = new TreeSet<>();
        Set<String> publicNames = new TreeSet<>();
        for (Method m : EclipseCheese.class.getDeclaredMethods()) {
            if (!Modifier.isPrivate(m.getModifiers()) && !m.isSynthetic()) {
                seen.add(told(m));
                publicNames.add(m.getName());
                check.same(m.getName() + " is public", Modifier.isPublic(m.getModifiers()), true);
            }
        }
        check.same("methods " + seen, seen.equals(due), true);
        for (Method m : EclipseCheese.class.getDeclaredMethods()) {
            if (Modifier.isPrivate(m.getModifiers())) {
                check.same("private " + m.getName(), publicNames.contains(m.getName()), false);
            }
        }
        for (Field f : EclipseCheese.class.getDeclaredFields()) {
            boolean none = f.getName().equals("NONE");
            check.same("private field " + f.getName(), Modifier.isPrivate(f.getModifiers()), !none);
            if (Modifier.isStatic(f.getModifiers())) {
                check.same("final field " + f.getName(), Modifier.isFinal(f.getModifiers()), true);
            }
        }
        Constructor<?>[] made = EclipseCheese.class.getDeclaredConstructors();
        check.same("constructors", made.length, 1);
        check.same("its parameters", made[0].getParameterCount(), 0);
        check.same("public constructor", Modifier.isPublic(made[0].getModifiers()), true);
        check.same("final", Modifier.isFinal(EclipseCheese.class.getModifiers()), true);
        check.same("classes", EclipseCheese.class.getDeclaredClasses().length <= 12, true);
        check.same("NONE", EclipseCheese.NONE, -1);
    }

    /** Only led() says that it throws; the import of what it throws stands in the face. */
    private static void exceptions(Check check) throws IOException {
        for (Method m : EclipseCheese.class.getDeclaredMethods()) {
            Class<?>[] thrown = m.getExceptionTypes();
            check.same("throws of " + m.getName(), thrown.length, m.getName().equals("led") ? 1 : 0);
            check.same("throws of " + m.getName(), thrown.length == 0 || thrown[0] == NoSuchElementException.class, true);
        }
        check.same("throws of the constructor", EclipseCheese.class.getDeclaredConstructors()[0].getExceptionTypes().length, 0);
        String source = Files.readString(SOURCE);
        check.same("import", source.contains("\nimport java.util.NoSuchElementException;\n"), true);
        check.same("no package", source.contains("\npackage ") || source.startsWith("package "), false);
    }

    /** "Ahead of the calls .. the interface says: ----": the same parts, with the same calls, in the same order; and the face as told. */
    private static void parts(Check check) throws IOException {
        if (!Files.exists(DOCUMENT)) {
            return;
        }
        String document = Files.readString(DOCUMENT);
        List<String> source = found(Files.readString(SOURCE), "(?m)^    // (---- .*)$|^    public (?:int|boolean) (\\w+)\\(");
        List<String> due = new ArrayList<>();
        Matcher ahead = Pattern.compile("Ahead of the calls (.*) the interface says: (---- .*)\\.").matcher(document);
        while (ahead.find()) {
            due.add(ahead.group(2));
            due.addAll(List.of(ahead.group(1).replace("`", "").split(", ")));
        }
        check.same("parts " + source + " for " + due, source.size() >= due.size() && source.subList(0, due.size()).equals(due), true);
        Set<String> told = new TreeSet<>();
        for (String line : found(document, "(?m)^    public ((?:int|boolean) \\w+\\(.*\\)).*;$")) {
            told.add(line.replaceAll("(int|boolean) \\w+(?=[,)])", "$1").replace(", ", ","));
        }
        check.same("the document's face " + told, told.equals(new TreeSet<>(Set.of(DUE))), true);
    }

    private static List<String> found(String text, String pattern) {
        List<String> all = new ArrayList<>();
        Matcher matcher = Pattern.compile(pattern).matcher(text);
        while (matcher.find()) {
            all.add(matcher.group(1) != null ? matcher.group(1) : matcher.group(2));
        }
        return all;
    }

    private static String told(Method m) {
        StringBuilder text = new StringBuilder();
        text.append(m.getReturnType().getName()).append(' ').append(m.getName()).append('(');
        for (int i = 0; i < m.getParameterCount(); i++) {
            text.append(i == 0 ? "" : ",").append(m.getParameterTypes()[i].getName());
        }
        return text.append(')').toString();
    }
}
