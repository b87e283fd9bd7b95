import java.io.IOException;
import java.lang.reflect.Constructor;
import java.lang.reflect.Field;
import java.lang.reflect.Method;
import java.lang.reflect.Modifier;
import java.nio.file.Files;
import java.nio.file.Path;
import java.util.ArrayList;
import java.util.Arrays;
import java.util.Collections;
import java.util.HashSet;
import java.util.List;
import java.util.Set;
import java.util.regex.Matcher;
import java.util.regex.Pattern;

/** The public face of the document and no other, and the rules of LANGUAGE.md that can be seen from outside. */
public final class FaceTest {
    private static final String INDEX = " IndexOutOfBoundsException";
    private static final String ARGUMENT = " IllegalArgumentException";
    private static final String STATE = " IllegalStateException";
    private static final String[] FACE = {
        "int addTrail()" + STATE,
        "int removeTrail(int)" + INDEX,
        "int addPoint(int,int,int,int)" + INDEX + ARGUMENT + STATE,
        "int removePoint(int,int)" + INDEX,
        "int set(int,int)" + ARGUMENT,
        "int setPole(int,int)" + ARGUMENT,
        "int search(int)" + ARGUMENT,
        "int addStar(int,int,int)" + ARGUMENT + STATE,
        "int removeStar(int)" + INDEX,
        "int point(int,int,int)" + INDEX + ARGUMENT,
        "int trail(int,int)" + INDEX + ARGUMENT,
        "int star(int,int)" + INDEX + ARGUMENT,
        "int starAngle(int,int)" + INDEX + ARGUMENT,
        "int cost(int,int)" + INDEX,
        "int missing(int)" + ARGUMENT,
        "int setting(int)" + ARGUMENT,
        "int whole(int)" + ARGUMENT,
        "int costAt(int,int)" + ARGUMENT,
        "int meanRate()",
        "int meanScale()",
        "int bestZero()",
        "int bestDrift(int)" + ARGUMENT,
        "int type(int)" + ARGUMENT + STATE,
        "int clearCommands()",
        "int runCommands()",
        "int stop()",
        "int undo()" + STATE,
        "long digest()"};

    // What LANGUAGE.md rules out or leaves unnamed, as it would stand in the code.
    private static final String[] BARRED = {"\\bimport\\b", "\\bpackage\\b", "->", "::", "\\bfinally\\b",
        "\\bcatch\\b", "\\bsynchronized\\b", "\\bassert\\b", "\\bvar\\b", "\\w+Exact\\b", "\\bfloat\\b", "\\bdouble\\b",
        "\\bSystem\\.(?!arraycopy\\b)", "\\bMath\\.(?!floorDiv\\b|floorMod\\b|abs\\b|min\\b|max\\b)", "\\bwhile \\(true\\)",
        "\\bInteger\\.", "\\bObject\\b", "\\binstanceof\\b", "\\brecord\\b", "[^\\x00-\\x7f]"};

    private static int wrong = 0;

    private static void check(boolean good, String what) {
        if (!good) {
            wrong++;
            System.out.println(what);
        }
    }

    private static String signature(Method m) {
        List<String> parameters = new ArrayList<>();
        for (Class<?> p : m.getParameterTypes()) {
            parameters.add(p.getSimpleName());
        }
        StringBuilder text = new StringBuilder(m.getReturnType().getSimpleName() + " " + m.getName());
        text.append('(').append(String.join(",", parameters)).append(')');
        for (Class<?> e : m.getExceptionTypes()) {
            text.append(' ').append(e.getSimpleName());
        }
        return text.toString();
    }

    private static void checkFace() throws ReflectiveOperationException {
        Class<?> face = ArcPlate.class;
        check(Modifier.isPublic(face.getModifiers()) && Modifier.isFinal(face.getModifiers()), "public and final");
        List<String> found = new ArrayList<>();
        Set<String> names = new HashSet<>();
        for (Method m : face.getDeclaredMethods()) {
            if (!Modifier.isPrivate(m.getModifiers())) {
                found.add(signature(m));
                names.add(m.getName());
                check(Modifier.isPublic(m.getModifiers()) && !Modifier.isStatic(m.getModifiers()), m + " is of the face");
            }
        }
        List<String> due = new ArrayList<>(Arrays.asList(FACE));
        Collections.sort(due);
        Collections.sort(found);
        check(due.equals(found), "the face is " + found + ", due is " + due);
        checkPrivateNames(face, names);
        for (Class<?> inner : face.getDeclaredClasses()) {
            checkPrivateNames(inner, names);
            checkFields(inner);
            check(Modifier.isStatic(inner.getModifiers()) && !Modifier.isPublic(inner.getModifiers())
                && !Modifier.isProtected(inner.getModifiers()), inner + " is static and not public");
        }
        Constructor<?>[] constructors = face.getDeclaredConstructors();
        check(constructors.length == 1 && Modifier.isPublic(constructors[0].getModifiers())
            && constructors[0].getParameterCount() == 0, "one public constructor without parameters");
        Field none = face.getDeclaredField("NONE");
        check(none.getType() == int.class && none.getModifiers() == (Modifier.PUBLIC | Modifier.STATIC | Modifier.FINAL)
            && none.getInt(null) == -1000000000, "NONE");
        checkFields(face);
    }

    private static void checkPrivateNames(Class<?> of, Set<String> names) {
        for (Method m : of.getDeclaredMethods()) {
            boolean own = of == ArcPlate.class && !Modifier.isPrivate(m.getModifiers());
            check(own || !names.contains(m.getName()), m + " has a name of the face");
            check(m.getParameterCount() <= 7, m + " has more than seven parameters");
        }
    }

    private static void checkFields(Class<?> of) {
        int fields = 0;
        for (Field f : of.getDeclaredFields()) {
            boolean isStatic = Modifier.isStatic(f.getModifiers());
            fields += isStatic ? 0 : 1;
            check(!isStatic || Modifier.isFinal(f.getModifiers()), f + " is static and not final");
            check(of != ArcPlate.class || Modifier.isPrivate(f.getModifiers()) || f.getName().equals("NONE"),
                f + " is not private");
        }
        check(fields <= 20, of + " has " + fields + " fields");
    }

    private static void checkSource() throws IOException {
        String source = Files.readString(Path.of("src/main/java/ArcPlate.java"));
        String code = source.replaceAll("(?s)/\\*.*?\\*/", "").replaceAll("//[^\n]*", "").replaceAll("\"[^\"\n]*\"", "\"\"");
        for (String barred : BARRED) {
            Matcher m = Pattern.compile(barred).matcher(code);
            check(!m.find(), "the source has " + barred);
        }
        check(!code.contains("\" +") && !code.contains("+ \""), "texts are joined by +");
    }

    public static void main(String[] args) throws Exception {
        checkFace();
        checkSource();
        System.out.println(wrong == 0 ? "the face is as due" : wrong + " faults of the face");
        if (wrong != 0) {
            System.exit(1);
        }
    }
}
