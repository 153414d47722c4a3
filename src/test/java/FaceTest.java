import java.lang.reflect.Field;
import java.lang.reflect.Member;
import java.lang.reflect.Method;
import java.lang.reflect.Modifier;
import java.nio.file.Files;
import java.nio.file.Path;
import java.util.ArrayList;
import java.util.Arrays;
import java.util.List;
import java.util.TreeSet;

/** The public face, and the words that the language of the class leaves out. */
public final class FaceTest {
    private static final String[] FACE = {
        "int letter(int)", "int blank()", "int fault()", "int law()", "int between(int,int)", "int person(int)",
        "int about(int,int)", "int as(int,int)", "int may(int,int,int,int)", "int favour(int,int,int,int)",
        "int deed(int,int)", "int week()", "int way(int,int,int)", "int reach(int)", "int bars(int,int)",
        "int meeting(int,int)", "int rings(int,int)", "int thanks(int)", "int forget()", "int fits()",
        "int sure(int)", "int weeks(int,int,int)", "int image()", "int restore()", "int count(int)", "long digest()"};
    private static final String[] LEFT_OUT = {
        "throw", "try", "catch", "synchronized", "assert", "import", "package", "protected", "->", "::",
        "hashCode", "toString", "equals"};

    private static int wrong = 0;

    private static void due(String what, Object got, Object want) {
        if (!want.equals(got)) {
            wrong++;
            System.out.println(what + ": " + got + ", due is " + want);
        }
    }

    public static void main(String[] args) throws Exception {
        Class<?> face = FavoursGoRound.class;
        due("final", Modifier.isFinal(face.getModifiers()), true);
        due("constructors", face.getDeclaredConstructors().length, 1);
        due("the constructor", Modifier.isPublic(face.getDeclaredConstructor().getModifiers()), true);
        TreeSet<String> methods = new TreeSet<>();
        TreeSet<String> names = new TreeSet<>();
        for (Method method : face.getDeclaredMethods()) {
            if (!Modifier.isPrivate(method.getModifiers())) {
                methods.add(told(method));
                names.add(method.getName());
            }
        }
        due("methods", methods, new TreeSet<>(Arrays.asList(FACE)));
        TreeSet<String> constants = new TreeSet<>();
        for (Field field : face.getDeclaredFields()) {
            if (!Modifier.isPrivate(field.getModifiers())) {
                constants.add(field.getName() + "=" + field.getInt(null));
            }
        }
        due("constants", constants.toString(), "[FULL=-104, NONE=-1, OUTSIDE=-102, STATE=-103, UNKNOWN=-101]");
        noNameTwice(face, names);
        limits(face);
        words();
        System.out.println(wrong == 0 ? "the face is as due" : wrong + " faults of the face");
        if (wrong != 0) {
            System.exit(1);
        }
    }

    private static String told(Method method) {
        List<String> takes = new ArrayList<>();
        for (Class<?> type : method.getParameterTypes()) {
            takes.add(type.getName());
        }
        return method.getReturnType() + " " + method.getName() + "(" + String.join(",", takes) + ")";
    }

    private static void noNameTwice(Class<?> face, TreeSet<String> names) {
        List<Member> hidden = new ArrayList<>();
        for (Method method : face.getDeclaredMethods()) {
            if (Modifier.isPrivate(method.getModifiers())) {
                hidden.add(method);
            }
        }
        for (Class<?> inside : face.getDeclaredClasses()) {
            due("static: " + inside, Modifier.isStatic(inside.getModifiers()), true);
            hidden.addAll(Arrays.asList(inside.getDeclaredMethods()));
        }
        for (Member member : hidden) {
            due("a public method's name: " + member, names.contains(member.getName()), false);
        }
    }

    /** Rules 1, 5 and 11 of LANGUAGE.md, as far as they are numbers or signs of a member. */
    private static void limits(Class<?> face) {
        List<Class<?>> classes = new ArrayList<>(Arrays.asList(face.getDeclaredClasses()));
        classes.add(face);
        due("twelve classes at most", classes.size() <= 12, true);
        for (Class<?> one : classes) {
            int fields = 0;
            for (Field field : one.getDeclaredFields()) {
                boolean isStatic = Modifier.isStatic(field.getModifiers());
                fields += isStatic ? 0 : 1;
                due("a static field is final: " + field, !isStatic || Modifier.isFinal(field.getModifiers()), true);
            }
            due("twenty fields at most: " + one, fields <= 20, true);
            for (Method method : one.getDeclaredMethods()) {
                due("seven parameters at most: " + method, method.getParameterCount() <= 7, true);
            }
            due("no class within " + one, one == face || one.getDeclaredClasses().length == 0, true);
        }
    }

    private static void words() throws Exception {
        String text = Files.readString(Path.of("src/main/java/FavoursGoRound.java"));
        String code = text.replaceAll("(?s)/\\*.*?\\*/", "").replaceAll("//[^\n]*", "");
        for (String word : LEFT_OUT) {
            String pattern = Character.isLetter(word.charAt(0)) ? "(?s).*\\b" + word + "\\b.*" : "(?s).*" + word + ".*";
            due("'" + word + "' in the class", code.matches(pattern), false);
        }
    }
}
