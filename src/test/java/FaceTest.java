import java.lang.reflect.Field;
import java.lang.reflect.Member;
import java.lang.reflect.Method;
import java.lang.reflect.Modifier;
import java.util.TreeSet;

/** The public face of the document, and nothing else that can be seen from outside. */
public final class FaceTest {
    private static final String[] FACE = {
        "int NONE", "int FULL", "int feed(int)", "int cut(int)", "int learn(int)", "int set(long)",
        "long drop()", "long weight()", "int ask(int,int)", "int near(int)", "long best()", "int rank()",
        "int found()", "int letter(int,int)", "long of(int,int)", "int terms()", "int letters()",
        "int term(int,int)", "int prefixes()"
    };
    private static final Checks CHECKS = new Checks("FaceTest");

    public static void main(String[] args) throws ReflectiveOperationException {
        TreeSet<String> seen = new TreeSet<>();
        for (Field field : TypoSuggester.class.getDeclaredFields()) {
            if (canBeSeen(field)) {
                seen.add(field.getType() + " " + field.getName());
                CHECKS.due(field.getName() + " is public static final", field.getModifiers(),
                    Modifier.PUBLIC | Modifier.STATIC | Modifier.FINAL);
            }
        }
        for (Method method : TypoSuggester.class.getDeclaredMethods()) {
            if (canBeSeen(method)) {
                seen.add(signature(method));
                CHECKS.due(method.getName() + " is public", method.getModifiers(), Modifier.PUBLIC);
            }
        }
        CHECKS.due("the members", seen.toString(), new TreeSet<>(java.util.List.of(FACE)).toString());
        CHECKS.due("constructors", TypoSuggester.class.getDeclaredConstructors().length, 1);
        CHECKS.due("public constructor", TypoSuggester.class.getConstructor().getParameterCount(), 0);
        CHECKS.due("the class", TypoSuggester.class.getModifiers(), Modifier.PUBLIC | Modifier.FINAL);
        CHECKS.due("NONE", TypoSuggester.NONE, -1);
        CHECKS.due("FULL", TypoSuggester.FULL, -2);
        CHECKS.end();
    }

    private static boolean canBeSeen(Member member) {
        return !Modifier.isPrivate(member.getModifiers()) && !member.isSynthetic();
    }

    private static String signature(Method method) {
        StringBuilder text = new StringBuilder();
        for (Class<?> type : method.getParameterTypes()) {
            text.append(text.length() == 0 ? "" : ",").append(type);
        }
        return method.getReturnType() + " " + method.getName() + "(" + text + ")";
    }
}
