import java.lang.reflect.Constructor;
import java.lang.reflect.Field;
import java.lang.reflect.Method;
import java.lang.reflect.Modifier;
import java.util.Arrays;
import java.util.Set;
import java.util.TreeSet;

/** The public face: just the constants, constructor and methods of the document; all else is private. */
final class FaceTest {
    private static final Checks CHECKS = new Checks("FaceTest");
    private static final String[] METHODS = {
        "int letters(long)", "int blank()", "int fault()", "int school()", "int counts(int,int,int)", "int meeting(int)",
        "int nut(int,int,int,int,int)", "int as(int,int)", "int about(int,int)", "int beats(int,int)",
        "int fight(int,int,int)", "int would(int,int,int,int)", "int scales(int,int)", "int told(int,int)",
        "int claim(int,int)", "int by(int,int)", "int lies(int)", "int most(int,int)", "int whose(int)",
        "long reach(int,int)", "long odds(int,int,int)", "long likely(int,int,int)", "int comer(int,int,int)",
        "int gone()", "long worth(int,int,int)", "int season(int)", "int tree(int,int,int,int,int,int)",
        "int last(int,int,int,int)", "int run(int,int,int)", "int image()", "int restore()", "int count(int)",
        "long digest()"
    };

    public static void main(String[] args) {
        constants();
        methods();
        constructors();
        classes();
        CHECKS.end();
    }

    private static void constants() {
        CHECKS.due("NONE", ThirtyNine.NONE, -1);
        CHECKS.due("UNKNOWN", ThirtyNine.UNKNOWN, -101);
        CHECKS.due("OUTSIDE", ThirtyNine.OUTSIDE, -102);
        CHECKS.due("STATE", ThirtyNine.STATE, -103);
        CHECKS.due("FULL", ThirtyNine.FULL, -104);
        Set<String> shown = new TreeSet<>();
        for (Field field : ThirtyNine.class.getDeclaredFields()) {
            if (!Modifier.isPrivate(field.getModifiers())) {
                shown.add(field.getName());
            }
            staticIsConstant(field);
        }
        CHECKS.holds("no other field is shown", shown.equals(Set.of("NONE", "UNKNOWN", "OUTSIDE", "STATE", "FULL")));
    }

    private static void staticIsConstant(Field field) {
        boolean constant = Modifier.isFinal(field.getModifiers()) && field.getType() == int.class;
        CHECKS.holds("static fields are constants: " + field, !Modifier.isStatic(field.getModifiers()) || constant);
    }

    private static void methods() {
        Set<String> shown = new TreeSet<>();
        Set<String> shownNames = new TreeSet<>();
        Set<String> hiddenNames = new TreeSet<>();
        for (Method method : ThirtyNine.class.getDeclaredMethods()) {
            if (Modifier.isPrivate(method.getModifiers())) {
                hiddenNames.add(method.getName());
            } else {
                CHECKS.holds("public: " + method, Modifier.isPublic(method.getModifiers()));
                shown.add(signature(method));
                shownNames.add(method.getName());
            }
        }
        CHECKS.holds("the methods of the document, and no other", shown.equals(new TreeSet<>(Arrays.asList(METHODS))));
        hiddenNames.retainAll(shownNames);
        CHECKS.holds("no private method bears a public name: " + hiddenNames, hiddenNames.isEmpty());
    }

    private static String signature(Method method) {
        StringBuilder text = new StringBuilder(method.getReturnType() + " " + method.getName() + "(");
        for (Class<?> type : method.getParameterTypes()) {
            text.append(text.charAt(text.length() - 1) == '(' ? "" : ",").append(type);
        }
        return text.append(")").toString();
    }

    private static void constructors() {
        Constructor<?>[] all = ThirtyNine.class.getDeclaredConstructors();
        CHECKS.due("constructors", all.length, 1);
        CHECKS.due("its parameters", all[0].getParameterCount(), 0);
        CHECKS.holds("it is public", Modifier.isPublic(all[0].getModifiers()));
    }

    private static void classes() {
        CHECKS.holds("the class is public and final", (ThirtyNine.class.getModifiers() & 0x11) == 0x11);
        Class<?>[] inside = ThirtyNine.class.getDeclaredClasses();
        CHECKS.holds("some twelve classes at most: " + (inside.length + 1), inside.length + 1 <= 12);
        for (Class<?> one : inside) {
            CHECKS.holds("static: " + one, Modifier.isStatic(one.getModifiers()));
            CHECKS.holds("private: " + one, Modifier.isPrivate(one.getModifiers()));
            for (Method method : one.getDeclaredMethods()) {
                boolean taken = Arrays.stream(METHODS).anyMatch(face -> face.contains(" " + method.getName() + "("));
                CHECKS.holds("no public name is borne inside: " + method, !taken);
            }
            Arrays.stream(one.getDeclaredFields()).forEach(FaceTest::staticIsConstant);
            long fields = Arrays.stream(one.getDeclaredFields()).filter(f -> !Modifier.isStatic(f.getModifiers())).count();
            CHECKS.holds("some twenty fields at most: " + one, fields <= 20);
        }
    }
}
