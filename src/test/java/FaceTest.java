import java.io.IOException;
import java.lang.reflect.Constructor;
import java.lang.reflect.Field;
import java.lang.reflect.Method;
import java.lang.reflect.Modifier;
import java.nio.file.Files;
import java.nio.file.Path;
import java.util.Set;
import java.util.TreeSet;
import java.util.regex.Matcher;
import java.util.regex.Pattern;

/** The document's face and no more of it, and what of the language's rules can be seen without reading. */
public final class FaceTest {
    private static final Checks CHECKS = new Checks();
    private static final String IAE = "IllegalArgumentException";
    private static final String ISE = "IllegalStateException";
    private static final String IOOBE = "IndexOutOfBoundsException";
    private static final String[] FACE = {
        "int book(int,int,int,int) throws " + IAE + "," + ISE, "int take(int) throws " + IOOBE,
        "int crack(int,int,boolean) throws " + IOOBE, "int mould(int,int) throws " + IOOBE + "," + IAE,
        "int year(int,int) throws " + IOOBE + "," + IAE, "int press(int,int) throws " + IOOBE + "," + IAE, "int date()",
        "int append(int) throws " + IAE + "," + ISE, "int clearBuffer()", "int firstError()",
        "int books() throws " + IAE + "," + ISE, "int undo() throws " + ISE, "int bookOf(int,int) throws " + IOOBE + "," + IAE,
        "int ahead(int,int) throws " + IOOBE + "," + IAE, "int count(int) throws " + IAE, "int order(int) throws " + IAE,
        "int place(int,int) throws " + IOOBE + "," + IAE, "int wrong(int) throws " + IAE, "int tells(int) throws " + IOOBE,
        "int ifYear(int,int,int) throws " + IOOBE + "," + IAE, "double datedShare()", "long digest()"};

    public static void main(String[] args) throws IOException {
        methods();
        fieldsAndConstructors();
        classesInside();
        source(Files.readString(Path.of("src/main/java/ColophonHunt.java")));
        CHECKS.close("FaceTest");
    }

    private static void dueTrue(String what, boolean got) {
        CHECKS.dueTrue(what, got);
    }

    private static void methods() {
        Set<String> want = new TreeSet<>(Set.of(FACE));
        Set<String> names = new TreeSet<>();
        Set<String> got = new TreeSet<>();
        for (Method m : ColophonHunt.class.getDeclaredMethods()) {
            if (Modifier.isPublic(m.getModifiers())) {
                dueTrue(m + " is a method of the object", !Modifier.isStatic(m.getModifiers()));
                got.add(signature(m));
                names.add(m.getName());
            }
        }
        dueTrue("the public methods " + got, got.equals(want));
        for (Method m : ColophonHunt.class.getDeclaredMethods()) {
            boolean isPublic = Modifier.isPublic(m.getModifiers());
            dueTrue(m + " is public or private", isPublic || Modifier.isPrivate(m.getModifiers()));
            dueTrue(m + " bears no name of a public one", isPublic || !names.contains(m.getName()));
        }
    }

    private static String signature(Method m) {
        StringBuilder text = new StringBuilder().append(m.getReturnType()).append(' ').append(m.getName()).append('(');
        for (Class<?> type : m.getParameterTypes()) {
            text.append(text.charAt(text.length() - 1) == '(' ? "" : ",").append(type);
        }
        text.append(')');
        String link = " throws ";
        for (Class<?> thrown : m.getExceptionTypes()) {
            text.append(link).append(thrown.getSimpleName());
            link = ",";
        }
        return text.toString();
    }

    private static void fieldsAndConstructors() {
        int mod = ColophonHunt.class.getModifiers();
        dueTrue("the class is public and final", Modifier.isPublic(mod) && Modifier.isFinal(mod));
        for (Field f : ColophonHunt.class.getDeclaredFields()) {
            boolean isConstant = f.getName().equals("NONE");
            dueTrue(f + " is seen as the document says",
                isConstant ? Modifier.isPublic(f.getModifiers()) : Modifier.isPrivate(f.getModifiers()));
            dueTrue(f + " is a number that never changes", !isConstant
                || f.getType() == int.class && Modifier.isStatic(f.getModifiers()) && Modifier.isFinal(f.getModifiers()));
            dueTrue(f + " is no static state", !Modifier.isStatic(f.getModifiers()) || Modifier.isFinal(f.getModifiers()));
        }
        Constructor<?>[] made = ColophonHunt.class.getDeclaredConstructors();
        dueTrue("one public constructor without arguments",
            made.length == 1 && made[0].getParameterCount() == 0 && Modifier.isPublic(made[0].getModifiers()));
    }

    private static void classesInside() {
        Class<?>[] inside = ColophonHunt.class.getDeclaredClasses();
        dueTrue("few classes", inside.length <= 11);
        for (Class<?> c : inside) {
            dueTrue(c + " is static and not public",
                Modifier.isStatic(c.getModifiers()) && !Modifier.isPublic(c.getModifiers()));
            int fields = 0;
            for (Field f : c.getDeclaredFields()) {
                fields += Modifier.isStatic(f.getModifiers()) ? 0 : 1;
            }
            dueTrue(c + " has few fields", fields <= 20);
        }
    }

    private static void source(String text) {
        String code = text.replaceAll("(?s)/\\*.*?\\*/", "").replaceAll("//[^\n]*", "").replaceAll("\"[^\"\n]*\"", "\"\"");
        code = code.replaceAll("import java\\.util\\.(ArrayList|Arrays|Iterator|List|NoSuchElementException);", "");
        String[] out = {"\\bimport\\b", "\\bpackage\\b", "::", "\\bfinally\\b", "\\bsynchronized\\b",
            "\\bassert\\b", "\\bSystem\\b(?!\\.arraycopy)", "\\bDouble\\b", "Exact\\b"};
        for (String rule : out) {
            Matcher found = Pattern.compile(rule).matcher(code);
            dueTrue("the source has no " + rule, !found.find());
        }
        // An arrow is a lambda, but behind the case of a switch.
        String withoutCases = code.replaceAll("\\b(case\\b[^;{}>]*|default\\s*)->", "");
        dueTrue("the source has no lambda", !withoutCases.contains("->"));
        // Of Math, Integer and Long, what takes int and long alone.
        Matcher library = Pattern.compile("\\bMath\\.(\\w+)").matcher(code);
        Set<String> onDoubles = Set.of("random", "sqrt", "cbrt", "pow", "exp", "log", "log10", "floor", "ceil", "rint", "round",
            "sin", "cos", "tan", "atan", "hypot", "fma", "scalb", "ulp", "getExponent", "signum");
        while (library.find()) {
            dueTrue(library.group() + " is allowed", !onDoubles.contains(library.group(1)));
        }
        for (int i = 0; i < text.length(); i++) {
            char c = text.charAt(i);
            dueTrue("sign " + (int) c, c >= 1 && c <= 127);
        }
    }
}
