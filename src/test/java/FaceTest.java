import java.io.IOException;
import java.lang.reflect.Constructor;
import java.lang.reflect.Field;
import java.lang.reflect.Method;
import java.lang.reflect.Modifier;
import java.nio.file.Files;
import java.nio.file.Path;
import java.util.Set;
import java.util.TreeSet;

/** The public face, and what LANGUAGE.md says of members and words (rules 1, 2, 5, 6 and 11). */
public final class FaceTest {
    private static final Set<String> FACE = Set.of(
        "int type()", "boolean put(int)", "int constructor(int,int)", "int predicate()", "void clause()",
        "int number(int)", "int same(int,int)", "int call(int)", "int form(int,int)", "int solve()",
        "int told(int)", "int typeOf(int)", "int meant(int)", "int about(int,int)", "int many(int)",
        "int constructorOf(int,int)", "int find(int,int,int)");
    private static final Check check = new Check("FaceTest");

    public static void main(String[] args) throws IOException {
        check.due("the class is public and final", KindDesk.class.getModifiers(), Modifier.PUBLIC | Modifier.FINAL);
        methods();
        fields();
        constructors();
        classesInside();
        words();
        check.end();
    }

    private static String face(Method method) {
        StringBuilder text = new StringBuilder(method.getReturnType() + " " + method.getName() + "(");
        String comma = "";
        for (Class<?> parameter : method.getParameterTypes()) {
            text.append(comma).append(parameter);
            comma = ",";
        }
        return text.append(")").toString();
    }

    private static void methods() {
        Set<String> found = new TreeSet<>();
        for (Method method : KindDesk.class.getDeclaredMethods()) {
            if (Modifier.isPublic(method.getModifiers())) {
                found.add(face(method));
                check.due(method + " is no static one", Modifier.isStatic(method.getModifiers()), false);
            } else {
                check.due(method + " is private", Modifier.isPrivate(method.getModifiers()), true);
            }
        }
        check.due("public methods " + found, found.equals(FACE), true);
    }

    private static void fields() {
        for (Field field : KindDesk.class.getDeclaredFields()) {
            int modifiers = field.getModifiers();
            check.due(field + " is private or NONE", Modifier.isPrivate(modifiers), !field.getName().equals("NONE"));
            check.due(field + " is final", Modifier.isFinal(modifiers), true);
        }
    }

    private static void constructors() {
        Constructor<?>[] all = KindDesk.class.getDeclaredConstructors();
        check.due("one constructor", all.length, 1);
        check.due("it is public", Modifier.isPublic(all[0].getModifiers()), true);
        check.due("it takes nothing", all[0].getParameterCount(), 0);
    }

    private static void classesInside() {
        Set<String> publicNames = new TreeSet<>();
        for (String method : FACE) {
            publicNames.add(method.substring(method.indexOf(' ') + 1, method.indexOf('(')));
        }
        Class<?>[] inside = KindDesk.class.getDeclaredClasses();
        check.due("at most twelve classes", inside.length < 12, true);
        for (Class<?> one : inside) {
            check.due(one + " is static", Modifier.isStatic(one.getModifiers()), true);
            check.due(one + " has few fields", one.getDeclaredFields().length <= 20, true);
            for (Method method : one.getDeclaredMethods()) {
                check.due(method + " bears no public name", publicNames.contains(method.getName()), false);
                check.due(method + " has few parameters", method.getParameterCount() <= 7, true);
            }
        }
    }

    private static void words() throws IOException {
        String source = Files.readString(Path.of("src/main/java/KindDesk.java"));
        String code = source.replaceAll("(?s)/\\*.*?\\*/", " ").replaceAll("//[^\n]*", " ");
        for (String word : new String[] {"throw", "throws", "try", "catch", "synchronized", "assert", "package"}) {
            check.due("the word " + word, code.matches("(?s).*\\b" + word + "\\b.*"), false);
        }
        for (String sign : new String[] {"->", "::", "[][]", "\""}) {
            check.due("the sign " + sign, code.contains(sign), false);
        }
    }
}
