import java.lang.reflect.Constructor;
import java.lang.reflect.Field;
import java.lang.reflect.Method;
import java.lang.reflect.Modifier;
import java.util.ArrayList;
import java.util.Arrays;
import java.util.HashSet;
import java.util.List;
import java.util.Set;
import java.util.TreeSet;

/** The face of the document, and of LANGUAGE.md's rules 1, 5 and 11 what the compiled class shows. */
public final class FaceTest {
    private static final Check check = new Check("FaceTest");

    private static final String[] FACE = {
        "int question(int) IllegalArgumentException IllegalStateException",
        "int route(int,int,int) IndexOutOfBoundsException IllegalArgumentException IllegalStateException",
        "int rotate(int) IllegalArgumentException IllegalStateException",
        "int behind(int,int) IndexOutOfBoundsException",
        "int person(int,int) IllegalArgumentException IllegalStateException",
        "int target(int,int,int) IndexOutOfBoundsException IllegalArgumentException",
        "int soft(int) IllegalArgumentException",
        "int ofCell(int,int,int) IndexOutOfBoundsException IllegalArgumentException",
        "int ofPerson(int,int) IndexOutOfBoundsException IllegalArgumentException",
        "int next()",
        "int day()",
        "int begin(int) IndexOutOfBoundsException IllegalStateException",
        "int answer(int,int,int) IndexOutOfBoundsException IllegalStateException IllegalArgumentException",
        "int ofInterview(int,int) IndexOutOfBoundsException IllegalArgumentException",
        "int given(int,int) IndexOutOfBoundsException",
        "int clean()",
        "int many(int) IllegalArgumentException",
        "int rounds(int) IllegalArgumentException",
        "int off()",
        "int share(int,int,int) IndexOutOfBoundsException",
        "boolean isMarked(int,int,int,int) IndexOutOfBoundsException IllegalArgumentException",
        "int hold() IllegalStateException",
        "int held(int,int,int) IndexOutOfBoundsException",
        "double meanSeconds()",
        "int cleaned()",
        "int nextIn(int) IllegalArgumentException",
        "int offWith(int) IllegalArgumentException",
        "int shortest(int) IndexOutOfBoundsException",
        "long digest()",
    };

    private static String names(Class<?>[] types, String between) {
        StringBuilder text = new StringBuilder();
        for (Class<?> type : types) {
            text.append(text.length() == 0 ? "" : between).append(type.getSimpleName());
        }
        return text.toString();
    }

    private static String signature(Method m) {
        String thrown = names(m.getExceptionTypes(), " ");
        return m.getReturnType().getSimpleName() + " " + m.getName() + "(" + names(m.getParameterTypes(), ",") + ")"
                + (thrown.isEmpty() ? "" : " " + thrown);
    }

    private static void face() {
        TreeSet<String> due = new TreeSet<>(Arrays.asList(FACE));
        TreeSet<String> got = new TreeSet<>();
        Set<String> open = new HashSet<>();
        List<String> twice = new ArrayList<>();
        for (Method m : SurveyHouse.class.getDeclaredMethods()) {
            if (!Modifier.isPrivate(m.getModifiers())) {
                got.add(signature(m) + (Modifier.isPublic(m.getModifiers()) ? "" : " not public"));
                open.add(m.getName());
            }
        }
        for (Method m : SurveyHouse.class.getDeclaredMethods()) {
            if (Modifier.isPrivate(m.getModifiers()) && open.contains(m.getName())) {
                twice.add(m.getName());
            }
        }
        if (!got.equals(due)) {
            check.tell("the face", got.toString(), due.toString());
        }
        check.due("private methods with a public one's name " + twice, twice.size(), 0);
        check.due("the class is public and final",
                SurveyHouse.class.getModifiers() & (Modifier.PUBLIC | Modifier.FINAL), Modifier.PUBLIC | Modifier.FINAL);
        Constructor<?>[] made = SurveyHouse.class.getDeclaredConstructors();
        check.due("constructors", made.length, 1);
        check.due("public, without parameters",
                Modifier.isPublic(made[0].getModifiers()) && made[0].getParameterCount() == 0, true);
    }

    private static void fields(Class<?> type) {
        int own = 0;
        for (Field f : type.getDeclaredFields()) {
            if (Modifier.isStatic(f.getModifiers())) {
                check.due(type + " " + f.getName() + " is final", Modifier.isFinal(f.getModifiers()), true);
            } else {
                own++;
            }
            check.due(type + " " + f.getName() + " is private", Modifier.isPrivate(f.getModifiers()), true);
        }
        check.due(type + " has at most twenty fields", own <= 20, true);
    }

    public static void main(String[] args) {
        face();
        fields(SurveyHouse.class);
        Class<?>[] inside = SurveyHouse.class.getDeclaredClasses();
        check.due("at most twelve classes", inside.length < 12, true);
        for (Class<?> type : inside) {
            int modifiers = type.getModifiers();
            check.due(type + " is static, and neither public nor protected",
                    Modifier.isStatic(modifiers) && !Modifier.isPublic(modifiers) && !Modifier.isProtected(modifiers), true);
            fields(type);
        }
        check.end();
    }
}
