import java.lang.reflect.Constructor;
import java.lang.reflect.Field;
import java.lang.reflect.Method;
import java.lang.reflect.Modifier;
import java.util.Set;
import java.util.TreeSet;

/** The public face is the document's and nothing else. */
public final class FaceTest {
    private static final String[] FACE = {
        "int letter(int)", "int duchy()", "int person(int,int)", "int parcel(int,int)", "int hate(int,int)",
        "int posts(int,int)", "int hates(int,int,int)", "int slights(int,int)", "int peace(int,int)",
        "int moves(int,int)", "int turn(int,int,int)", "int days(int)", "int parcelThen(int,int,int)",
        "int hateThen(int,int,int)", "int gotThen(int,int)", "int when(int)", "int first(int)", "int enemy(int,int)",
        "int malice(int,int)", "int loved()", "int busiest(int)", "int ring(int,int)", "int slight(int)",
        "int cost(int,int)", "int makeUp(int)", "int post(int,int)", "int road(int,int)", "int farthest()",
        "int fair(int)", "int two(int,int,int)", "long snow(int,int,int,int)", "long mean(int)",
        "int who(int,int,int)", "int row(int)", "int judge()", "int clear()", "int lots(int,int,int)", "int image()",
        "int on()", "int count(int)"};

    private static int wrong = 0;

    public static void main(String[] args) {
        checkClass();
        checkMethods();
        checkOtherMembers();
        if (wrong != 0) {
            System.exit(1);
        }
    }

    private static void say(String text) {
        wrong++;
        System.out.println(text);
    }

    private static void checkClass() {
        int modifiers = PostByEnemy.class.getModifiers();
        if (!Modifier.isPublic(modifiers) || !Modifier.isFinal(modifiers)) {
            say("the class is not public and final");
        }
        Constructor<?>[] made = PostByEnemy.class.getDeclaredConstructors();
        if (made.length != 1 || made[0].getParameterCount() != 0 || !Modifier.isPublic(made[0].getModifiers())) {
            say("not just the one public constructor without parameters");
        }
    }

    private static void checkMethods() {
        Set<String> due = new TreeSet<>(Set.of(FACE));
        Set<String> names = new TreeSet<>();
        for (Method method : PostByEnemy.class.getDeclaredMethods()) {
            if (Modifier.isPublic(method.getModifiers())) {
                names.add(method.getName());
                if (!due.remove(told(method))) {
                    say("not in the document: " + told(method));
                }
            }
        }
        for (String lacking : due) {
            say("lacking: " + lacking);
        }
        for (Method method : PostByEnemy.class.getDeclaredMethods()) {
            boolean isPrivate = Modifier.isPrivate(method.getModifiers());
            if (!isPrivate && !Modifier.isPublic(method.getModifiers()) && !method.isSynthetic()) {
                say("neither public nor private: " + told(method));
            }
            if (isPrivate && names.contains(method.getName())) {
                say("private by a public one's name: " + told(method));
            }
        }
    }

    private static String told(Method method) {
        StringBuilder text = new StringBuilder();
        text.append(method.getReturnType().getName()).append(' ').append(method.getName()).append('(');
        String comma = "";
        for (Class<?> type : method.getParameterTypes()) {
            text.append(comma).append(type.getName());
            comma = ",";
        }
        return text.append(')').toString();
    }

    private static void checkOtherMembers() {
        for (Field field : PostByEnemy.class.getDeclaredFields()) {
            if (!Modifier.isPrivate(field.getModifiers())) {
                say("a field that is not private: " + field.getName());
            }
        }
        for (Class<?> inside : PostByEnemy.class.getDeclaredClasses()) {
            int modifiers = inside.getModifiers();
            if (!Modifier.isStatic(modifiers) || Modifier.isPublic(modifiers) || Modifier.isProtected(modifiers)) {
                say("a class inside that is not static, or not private: " + inside.getName());
            }
        }
    }
}
