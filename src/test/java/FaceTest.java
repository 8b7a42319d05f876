import java.lang.reflect.Constructor;
import java.lang.reflect.Field;
import java.lang.reflect.Method;
import java.lang.reflect.Modifier;
import java.nio.file.Files;
import java.nio.file.Path;
import java.util.Arrays;
import java.util.TreeSet;
import java.util.regex.Matcher;
import java.util.regex.Pattern;

/** The public face of the class, and the rules of LANGUAGE.md that can be read off it. */
public final class FaceTest {
    private static final String[] METHODS = {
        "int posts(int)", "int line(int,int,boolean)", "int mark(int,int)", "int scheme(int)", "int holds()",
        "int sets()", "int far(int,int)", "int proof(int,int)", "int accepts(int)", "int against()", "int prove()",
        "int tryAll(int)", "int attempt(int,int)", "int numbers()", "long slip(int,int)", "int distance(int,int)",
        "int restless()", "int move(int)", "int mend()", "int longest()", "int shortest()", "int count(int)",
        "long digest()"};
    private static final String[] FIELDS = {"NONE=-1", "UNKNOWN=-101", "OUTSIDE=-102", "STATE=-103"};
    private static final String[] BARRED = {
        "throw", "throws", "try", "catch", "finally", "synchronized", "assert", "->", "::", "@Override",
        "System.out", "Random", "Thread", "hashCode", "toString", "Exact"};

    private static int wrong = 0;

    private static void due(String what, Object got, Object want) {
        if (!got.equals(want)) {
            wrong++;
            System.out.println(what + " is " + got + ", due is " + want);
        }
    }

    private static String nameOf(Method m) {
        StringBuilder text = new StringBuilder(m.getReturnType().getSimpleName() + " " + m.getName() + "(");
        for (int i = 0; i < m.getParameterTypes().length; i++) {
            text.append(i == 0 ? "" : ",").append(m.getParameterTypes()[i].getSimpleName());
        }
        return text.append(")").toString();
    }

    private static void checkFace() throws Exception {
        due("the class's being public and final",
            Modifier.toString(PostProofs.class.getModifiers()), "public final");
        TreeSet<String> methods = new TreeSet<>();
        TreeSet<String> publicNames = new TreeSet<>();
        TreeSet<String> privateNames = new TreeSet<>();
        for (Method m : PostProofs.class.getDeclaredMethods()) {
            if (Modifier.isPrivate(m.getModifiers())) {
                privateNames.add(m.getName());
            } else {
                due(m.getName() + "'s modifiers", Modifier.toString(m.getModifiers()), "public");
                methods.add(nameOf(m));
                publicNames.add(m.getName());
            }
        }
        due("the set of methods", methods, new TreeSet<>(Arrays.asList(METHODS)));
        TreeSet<String> fields = new TreeSet<>();
        for (Field f : PostProofs.class.getDeclaredFields()) {
            if (!Modifier.isPrivate(f.getModifiers())) {
                due(f.getName() + "'s modifiers", Modifier.toString(f.getModifiers()), "public static final");
                fields.add(f.getName() + "=" + f.getInt(null));
            }
        }
        due("the set of constants", fields, new TreeSet<>(Arrays.asList(FIELDS)));
        Constructor<?>[] made = PostProofs.class.getDeclaredConstructors();
        due("the number of constructors", made.length, 1);
        due("the constructor", made[0].toString(), "public PostProofs()");
        for (Class<?> inside : PostProofs.class.getDeclaredClasses()) {
            due(inside + "'s being static", Modifier.isStatic(inside.getModifiers()), true);
            for (Method m : inside.getDeclaredMethods()) {
                privateNames.add(m.getName());
            }
        }
        privateNames.retainAll(publicNames);
        due("names of inner methods that are public ones too", privateNames, new TreeSet<String>());
    }

    /** Rules 3, 5 and 11: what a class may hold, and how much of it. */
    private static void checkSize(Class<?> c) {
        int fields = 0;
        for (Field f : c.getDeclaredFields()) {
            boolean shared = Modifier.isStatic(f.getModifiers());
            fields += shared ? 0 : 1;
            due(c.getSimpleName() + "." + f.getName() + " as a static field that is not final",
                shared && !Modifier.isFinal(f.getModifiers()), false);
            due(c.getSimpleName() + "." + f.getName() + "'s type's being one of the rules",
                isLawful(f.getType()), true);
        }
        due(c.getSimpleName() + "'s having more than twenty fields", fields > 20, false);
        for (Method m : c.getDeclaredMethods()) {
            due(c.getSimpleName() + "." + m.getName() + "'s taking more than seven parameters",
                m.getParameterCount() > 7, false);
        }
    }

    private static boolean isLawful(Class<?> type) {
        boolean own = type.getEnclosingClass() == PostProofs.class;
        return own || type.isPrimitive() || type.isArray() && isLawful(type.getComponentType());
    }

    private static void checkSizes() {
        Class<?>[] inside = PostProofs.class.getDeclaredClasses();
        due("having more than twelve classes", inside.length + 1 > 12, false);
        checkSize(PostProofs.class);
        for (Class<?> c : inside) {
            checkSize(c);
        }
    }

    private static void checkText() throws Exception {
        String text = Files.readString(Path.of("src/main/java/PostProofs.java"));
        String code = text.replaceAll("(?s)/\\*.*?\\*/", " ").replaceAll("//[^\n]*", " ");
        for (String word : BARRED) {
            String edge = Character.isLetter(word.charAt(0)) && !word.equals("Exact") ? "\\b" : "";
            Matcher found = Pattern.compile(edge + Pattern.quote(word) + edge).matcher(code);
            due("use of " + word, found.find(), false);
        }
        Matcher imports = Pattern.compile("import ([^;]*);").matcher(code);
        while (imports.find()) {
            due("an import", imports.group(1), "java.util.Arrays");
        }
    }

    public static void main(String[] args) throws Exception {
        checkFace();
        checkSizes();
        checkText();
        System.out.println(wrong == 0 ? "the face is as due" : wrong + " things are not as due");
        if (wrong != 0) {
            System.exit(1);
        }
    }
}
