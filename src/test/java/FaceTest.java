import java.io.IOException;
import java.lang.reflect.Constructor;
import java.lang.reflect.Field;
import java.lang.reflect.Method;
import java.lang.reflect.Modifier;
import java.nio.file.Files;
import java.nio.file.Path;
import java.util.ArrayList;
import java.util.Arrays;
import java.util.List;
import java.util.Set;
import java.util.TreeSet;
import java.util.regex.Matcher;
import java.util.regex.Pattern;

/** The public face is the document's and no more, and the source keeps to those rules of LANGUAGE.md that can be read off it. */
public final class FaceTest {
    private static final Path SOURCE = Path.of("src/main/java/DifferentValues.java");
    private static final int LONGEST_METHOD = 60;
    private static final String[] FACE = {
        "void clear()", "int name(int)", "int different(int)", "int counted(int)", "int limits(int,int,int,int)",
        "int same(int,int)", "int turned(int,int)", "int kinds(int,int,int)", "int dear(int,long)",
        "int cost(int,int,int,int)", "int domain(int)", "int keep(int,int)", "int run()", "int in(int,int,int)",
        "int blocked()", "int reason(int,int,int)", "int great(int)", "long ways(int) throws IllegalArgumentException",
        "long end(int,int) throws IllegalArgumentException,IllegalStateException", "int sure(int)", "int mark()",
        "int back(int)", "int plans()", "int plan(int,int)", "int told(int)"};

    private static final List<String> faults = new ArrayList<>();

    public static void main(String[] args) throws IOException {
        Class<?> face = DifferentValues.class;
        check(Modifier.isPublic(face.getModifiers()) && Modifier.isFinal(face.getModifiers()), "the class is public and final");
        methods(face);
        fieldsAndConstructors(face);
        classesInside(face);
        source(Files.readString(SOURCE));
        for (String fault : faults) {
            System.out.println("not so: " + fault);
        }
        System.out.println(faults.isEmpty() ? "the face and the source are as due" : faults.size() + " faults");
        if (!faults.isEmpty()) {
            System.exit(1);
        }
    }

    private static void check(boolean so, String what) {
        if (!so) {
            faults.add(what);
        }
    }

    private static String told(Method m) {
        String parameters = names(m.getParameterTypes());
        String thrown = names(m.getExceptionTypes());
        return m.getReturnType().getSimpleName() + " " + m.getName() + "(" + parameters + ")" + (thrown.isEmpty() ? "" : " throws " + thrown);
    }

    private static String names(Class<?>[] types) {
        List<String> names = new ArrayList<>();
        for (Class<?> type : types) {
            names.add(type.getSimpleName());
        }
        return String.join(",", names);
    }

    private static void methods(Class<?> face) {
        Set<String> shown = new TreeSet<>();
        Set<String> publicNames = new TreeSet<>();
        for (Method m : face.getDeclaredMethods()) {
            if (Modifier.isPublic(m.getModifiers())) {
                shown.add(told(m));
                publicNames.add(m.getName());
                check(!Modifier.isStatic(m.getModifiers()), m.getName() + " is not static");
            }
        }
        check(shown.equals(new TreeSet<>(Arrays.asList(FACE))), "the public methods are the document's: " + shown);
        for (Method m : face.getDeclaredMethods()) {
            boolean isPublic = Modifier.isPublic(m.getModifiers());
            check(isPublic || Modifier.isPrivate(m.getModifiers()), m.getName() + " is public or private");
            check(isPublic || !publicNames.contains(m.getName()), m.getName() + " bears a name of its own");
        }
        for (Class<?> inside : face.getDeclaredClasses()) {
            for (Method m : inside.getDeclaredMethods()) {
                check(!publicNames.contains(m.getName()), inside.getSimpleName() + "." + m.getName() + " bears a name of its own");
            }
        }
    }

    private static void fieldsAndConstructors(Class<?> face) {
        for (Field f : face.getDeclaredFields()) {
            check(f.getName().equals("NONE") || Modifier.isPrivate(f.getModifiers()), f.getName() + " is private");
            check(!Modifier.isStatic(f.getModifiers()) || Modifier.isFinal(f.getModifiers()), f.getName() + " is final");
        }
        Constructor<?>[] constructors = face.getDeclaredConstructors();
        check(constructors.length == 1 && constructors[0].getParameterCount() == 0, "there is one constructor");
        check(Modifier.isPublic(constructors[0].getModifiers()), "the constructor is public");
    }

    private static void classesInside(Class<?> face) {
        Class<?>[] inside = face.getDeclaredClasses();
        check(inside.length < 12, "there are at most twelve classes");
        for (Class<?> c : inside) {
            int modifiers = c.getModifiers();
            check(Modifier.isStatic(modifiers), c.getSimpleName() + " is static");
            check(!Modifier.isPublic(modifiers) && !Modifier.isProtected(modifiers), c.getSimpleName() + " is not shown");
            int fields = 0;
            for (Field f : c.getDeclaredFields()) {
                fields += Modifier.isStatic(f.getModifiers()) ? 0 : 1;
                check(!Modifier.isStatic(f.getModifiers()) || Modifier.isFinal(f.getModifiers()), f.getName() + " is final");
            }
            check(fields <= 20, c.getSimpleName() + " has at most twenty fields");
            for (Method m : c.getDeclaredMethods()) {
                check(m.getParameterCount() <= 7, m.getName() + " has at most seven parameters");
            }
        }
    }

    private static void source(String text) {
        String code = text.replaceAll("(?s)/\\*.*?\\*/", " ").replaceAll("//[^\n]*", " ").replaceAll("\"[^\"\n]*\"", "\"\"");
        // An arrow behind a case is no lambda.
        code = code.replaceAll("(?:\\bcase\\b[^;{}]*?|\\bdefault\\s*)->", " ");
        String[] outside = {
            "->", "::", "\\bpackage\\b", "\\bsynchronized\\b", "\\bassert\\b", "\\bfinally\\b", "\\btry\\s*\\(", "Exact\\b",
            "\\bRandom\\b", "\\bThread\\b", "\\bSystem\\.(?!arraycopy\\b)", "\\bArrays\\.(?!fill\\b|copyOf\\b|copyOfRange\\b)",
            "\\bMath\\.(?!max\\b|min\\b|abs\\b|floorDiv\\b|floorMod\\b)", "\\bstatic\\s*\\{", "\\bgetMessage\\b",
            "\\bhashCode\\b", "\\[\\s*\\]\\s*\\[\\s*\\]\\s*\\[",
            "\\bimport (?!java\\.util\\.(?:Arrays|ArrayList|List|Iterator|NoSuchElementException);)",
            "\\bcatch\\s*\\(\\s*(?:final\\s+)?(?:Throwable|Exception|Error|NullPointerException|ArrayIndexOutOfBoundsException"
                + "|ClassCastException|NegativeArraySizeException|ArrayStoreException)\\b"};
        for (String pattern : outside) {
            Matcher m = Pattern.compile(pattern).matcher(code);
            check(!m.find(), "the source is without " + pattern);
        }
        int start = -1;
        String[] lines = text.split("\n");
        for (int i = 0; i < lines.length; i++) {
            boolean opens = lines[i].matches(" {4}(?: {4})?[^ /*].*\\) ?(throws .*)?\\{");
            start = opens ? i : start;
            boolean closes = start >= 0 && lines[i].equals(lines[start].replaceAll("\\S.*", "") + "}");
            check(!closes || i - start < LONGEST_METHOD, "short enough: " + lines[Math.max(start, 0)].trim());
            start = closes ? -1 : start;
        }
    }
}
