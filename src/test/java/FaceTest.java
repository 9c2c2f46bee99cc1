import java.io.IOException;
import java.lang.reflect.Constructor;
import java.lang.reflect.Field;
import java.lang.reflect.Member;
import java.lang.reflect.Method;
import java.lang.reflect.Modifier;
import java.nio.file.Files;
import java.nio.file.Path;
import java.util.ArrayList;
import java.util.List;
import java.util.TreeSet;
import java.util.regex.Matcher;
import java.util.regex.Pattern;
import java.util.stream.Collectors;
import java.util.stream.Stream;

/** The face of the class, and those rules of LANGUAGE.md that can be seen from the text of the program. */
public final class FaceTest {
    private static final String[] FACE = {
        "VisitHours()", "int append(int) IAE ISE", "int clearText()", "int errorPosition()", "int load() ISE",
        "int about(int) IAE", "int prisoner(int,int) IOOBE IAE", "int visitor(int,int) IOOBE IAE",
        "int booking(int,int) IOOBE IAE", "int line(int,int) IOOBE IAE", "int wishAt(int) IAE",
        "int setting(int) IAE", "int addPrisoner(int) IAE ISE", "int promote(int,int) IOOBE IAE",
        "int list(int,int,boolean) IOOBE", "int keepApart(int,int,boolean) IOOBE ISE",
        "int book(int,int,int,int) IOOBE IAE ISE", "int cancel(int) IOOBE", "int late(int,int) IOOBE IAE",
        "int carry(int,boolean) IOOBE", "int punish(int,int) IOOBE IAE", "int wish(int,int) IOOBE ISE",
        "int run(int) IAE", "int set(int,int) IAE", "int undo() ISE", "int whyNot(int,int,int,int) IOOBE IAE",
        "int firstTime(int,int) IOOBE", "int coming(int,int) IAE", "int becomes(int) IOOBE ISE",
        "int runScript(int,long) IAE", "int simulate(long,int) IAE", "int save(int) IOOBE",
        "int restore(int) IOOBE ISE", "int NONE",
    };

    private static String names(Class<?>[] types) {
        return Stream.of(types).map(Class::getSimpleName).collect(Collectors.joining(","));
    }

    private static String thrown(Class<?>[] types) {
        return Stream.of(types).map(t -> " " + t.getSimpleName().replaceAll("[a-z]", ""))
                .collect(Collectors.joining());
    }

    private static String of(Method m) {
        return m.getReturnType().getSimpleName() + " " + m.getName() + "(" + names(m.getParameterTypes()) + ")"
                + thrown(m.getExceptionTypes());
    }

    private static boolean isSeen(Member member) {
        return !Modifier.isPrivate(member.getModifiers()) && !member.isSynthetic();
    }

    private static void face() {
        TreeSet<String> due = new TreeSet<>(List.of(FACE));
        TreeSet<String> got = new TreeSet<>();
        for (Constructor<?> c : VisitHours.class.getDeclaredConstructors()) {
            if (isSeen(c)) got.add(c.getDeclaringClass().getSimpleName() + "(" + names(c.getParameterTypes()) + ")");
        }
        for (Method m : VisitHours.class.getDeclaredMethods()) {
            if (isSeen(m)) got.add(of(m));
        }
        for (Field f : VisitHours.class.getDeclaredFields()) {
            if (isSeen(f)) got.add(f.getType().getSimpleName() + " " + f.getName());
        }
        Check.same("the face", String.join("\n", got), String.join("\n", due));
        Check.is("the class is public and final", VisitHours.class.getModifiers(), Modifier.PUBLIC | Modifier.FINAL);
        Check.is("NONE", VisitHours.NONE, -1);
    }

    private static void innerNames() {
        List<String> same = new ArrayList<>();
        for (Class<?> inner : VisitHours.class.getDeclaredClasses()) {
            for (Method m : inner.getDeclaredMethods()) {
                for (String face : FACE) {
                    if (face.contains(" " + m.getName() + "(")) same.add(inner.getSimpleName() + "." + m.getName());
                }
            }
        }
        Check.same("methods inside with the name of a public one", same.toString(), "[]");
    }

    private static String withoutComments(String source) {
        return source.replaceAll("(?s)/\\*.*?\\*/", " ").replaceAll("//[^\\n]*", " ");
    }

    private static void rules(String source) {
        String[] forbidden = {"\\bimport\\b", "\\bpackage\\b", "->", "::", "\\bfinally\\b", "\\bsynchronized\\b",
            "\\bassert\\b", "\\btry\\b", "\\bcatch\\b", "\\bstatic\\s*\\{", "\\bnative\\b", "\\bvar\\b", "\\bHashMap\\b",
            "\\bThread\\b", "\\bRandom\\b", "currentTimeMillis", "nanoTime", "Exact\\b", "\\bObject\\b",
            "\\bhashCode\\b", "\\bequals\\b", "\"\\s*\\+", "\\+\\s*\"", "[^\\x00-\\x7f]", "\t"};
        String program = withoutComments(source);
        for (String pattern : forbidden) {
            Matcher found = Pattern.compile(pattern).matcher(program);
            Check.same("what LANGUAGE.md rules out", found.find() ? found.group() : "", "");
        }
        Matcher thrown = Pattern.compile("\\bthrow\\b[^;]*;").matcher(program);
        while (thrown.find()) {
            boolean plain = thrown.group().matches("throw new (IllegalState|IllegalArgument|IndexOutOfBounds)"
                    + "Exception\\((\"[^\"]*\")?\\);");
            Check.is("a throw as rule 6 has it: " + thrown.group(), plain ? 1 : 0, 1);
        }
    }

    /** Rule 11: how many parameters, fields and classes there are. */
    private static void sizes() {
        List<Class<?>> classes = new ArrayList<>(List.of(VisitHours.class.getDeclaredClasses()));
        classes.add(VisitHours.class);
        Check.is("at most twelve classes", classes.size() <= 12 ? 1 : 0, 1);
        for (Class<?> c : classes) {
            long fields = Stream.of(c.getDeclaredFields()).filter(f -> !Modifier.isStatic(f.getModifiers())).count();
            Check.is("at most twenty fields in " + c.getSimpleName(), fields <= 20 ? 1 : 0, 1);
            for (Method m : c.getDeclaredMethods()) {
                Check.is("at most seven parameters: " + m, m.getParameterCount() <= 7 ? 1 : 0, 1);
            }
        }
    }

    /** Rule 11: a method ends with a brace that stands as far in as it begins, sixty lines behind it at most. */
    private static void lengths(String source) {
        String[] lines = source.split("\n");
        int methods = 0;
        for (int i = 0; i < lines.length; i++) {
            Matcher head = Pattern.compile("^( {4}| {8})(?!.*\\b(class|return|new|if|for|while|switch)\\b)\\w.*\\(.*")
                    .matcher(lines[i]);
            if (head.matches() && !lines[i].endsWith(";")) {
                methods++;
                int end = List.of(lines).subList(i, lines.length).indexOf(head.group(1) + "}");
                Check.is("at most sixty lines: " + lines[i].strip(), end > 0 && end <= 60 ? 1 : 0, 1);
            }
        }
        Check.is("methods were found", methods > 100 ? 1 : 0, 1);
    }

    public static void main(String[] args) throws IOException {
        String source = Files.readString(Path.of(args.length > 0 ? args[0] : "src/main/java/VisitHours.java"));
        face();
        innerNames();
        rules(source);
        sizes();
        lengths(source);
        Check.end();
    }
}
