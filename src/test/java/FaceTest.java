import java.lang.reflect.Constructor;
import java.lang.reflect.Field;
import java.lang.reflect.Method;
import java.lang.reflect.Modifier;
import java.util.Arrays;
import java.util.Set;
import java.util.TreeSet;

/** The face is the document's and nothing more, and the object holds no state in common. */
public final class FaceTest {
    private static final String[] FACE = {
        "public static final int NONE",
        "public ScalarScribe()",
        "public boolean feed(int)",
        "public int erase()",
        "public int fromEights()",
        "public int fromSixteens()",
        "public int fromLetters()",
        "public int mend(boolean)",
        "public int toEights()",
        "public int toSixteens()",
        "public int toLetters()",
        "public int turn()",
        "public int count()",
        "public int point(int)",
        "public int length()",
        "public int out(int)",
        "public void keep()",
        "public int compare(boolean)",
    };

    public static void main(String[] args) {
        Check check = new Check();
        Class<?> scribe = ScalarScribe.class;
        check.due("public and final",
                scribe.getModifiers() & (Modifier.PUBLIC | Modifier.FINAL),
                Modifier.PUBLIC | Modifier.FINAL);
        Set<String> wanted = new TreeSet<>(Arrays.asList(FACE));
        Set<String> found = visibleMembers(scribe);
        for (String member : wanted) {
            check.due("there is " + member, found.contains(member), true);
        }
        for (String member : found) {
            check.due("the document has " + member, wanted.contains(member), true);
        }
        checkPrivateNames(check, scribe);
        checkStatics(check, scribe);
        for (Class<?> inside : scribe.getDeclaredClasses()) {
            check.due(inside + " is static", Modifier.isStatic(inside.getModifiers()), true);
            check.due(inside + " is hidden",
                    inside.getModifiers() & (Modifier.PUBLIC | Modifier.PROTECTED), 0);
            checkStatics(check, inside);
        }
        check.end();
    }

    private static Set<String> visibleMembers(Class<?> scribe) {
        Set<String> members = new TreeSet<>();
        for (Field field : scribe.getDeclaredFields()) {
            if (!Modifier.isPrivate(field.getModifiers())) {
                members.add(plain(field.toGenericString()));
            }
        }
        for (Constructor<?> constructor : scribe.getDeclaredConstructors()) {
            if (!Modifier.isPrivate(constructor.getModifiers())) {
                members.add(plain(constructor.toGenericString()));
            }
        }
        for (Method method : scribe.getDeclaredMethods()) {
            if (!Modifier.isPrivate(method.getModifiers()) && !method.isSynthetic()) {
                members.add(plain(method.toGenericString()));
            }
        }
        return members;
    }

    private static String plain(String member) {
        return member.replace("ScalarScribe.", "");
    }

    private static void checkPrivateNames(Check check, Class<?> scribe) {
        Set<String> open = new TreeSet<>();
        for (Method method : scribe.getMethods()) {
            open.add(method.getName());
        }
        for (Method method : scribe.getDeclaredMethods()) {
            boolean hidden = Modifier.isPrivate(method.getModifiers());
            check.due("private and public name " + method.getName(),
                    hidden && open.contains(method.getName()), false);
        }
    }

    private static void checkStatics(Check check, Class<?> owner) {
        for (Field field : owner.getDeclaredFields()) {
            int modifiers = field.getModifiers();
            check.due(field + " is final or of an object",
                    Modifier.isStatic(modifiers) && !Modifier.isFinal(modifiers), false);
        }
    }
}
