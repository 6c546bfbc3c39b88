import java.lang.reflect.Constructor;
import java.lang.reflect.Field;
import java.lang.reflect.Method;
import java.lang.reflect.Modifier;
import java.util.Set;
import java.util.TreeSet;

/** The public face, just as the document tells it, and no member of the class beside it that is not private. */
public final class FaceTest {
    private static final String[] FACE = {
        "int NONE", "int UNKNOWN", "int OUTSIDE", "int STATE", "int FULL", "new()",
        "int letter(int)", "int blank()", "int fault()", "int feasts()", "int dayOf(int,int)", "int forge(int,int)",
        "int pack(int,int,int)", "int about(int,int)", "int as(int,int)", "int flock(int,int)", "int flockOf(int,int)",
        "int name(int,int)", "int move(int,int)", "int day()", "int loss(int)", "int falls(int)", "int safe(int,int)",
        "int graze(int,int,int)", "int nail(int,int)", "int watch(int)", "int seen(boolean)", "int fits(int)",
        "int years(int,int,int)", "int image()", "int restore()", "int count(int)", "long digest()",
    };

    private static String parameters(Class<?>[] types) {
        StringBuilder text = new StringBuilder("(");
        for (int i = 0; i < types.length; i++) text.append(i > 0 ? "," : "").append(types[i].getSimpleName());
        return text.append(")").toString();
    }

    private static Set<String> faceOf(Class<?> its) {
        Set<String> face = new TreeSet<>();
        for (Field field : its.getDeclaredFields()) {
            if (Modifier.isPrivate(field.getModifiers()) || field.isSynthetic()) continue;
            boolean constant = field.getModifiers() == (Modifier.PUBLIC | Modifier.STATIC | Modifier.FINAL);
            face.add((constant ? "" : "no constant: ") + field.getType().getSimpleName() + " " + field.getName());
        }
        for (Constructor<?> constructor : its.getDeclaredConstructors()) {
            if (!Modifier.isPrivate(constructor.getModifiers())) face.add("new" + parameters(constructor.getParameterTypes()));
        }
        for (Method method : its.getDeclaredMethods()) {
            if (Modifier.isPrivate(method.getModifiers()) || method.isSynthetic()) continue;
            boolean plain = method.getModifiers() == Modifier.PUBLIC;
            face.add((plain ? "" : "not plainly public: ") + method.getReturnType().getSimpleName() + " " + method.getName()
                + parameters(method.getParameterTypes()));
        }
        return face;
    }

    public static void main(String[] args) {
        Set<String> due = new TreeSet<>(Set.of(FACE));
        Set<String> has = faceOf(WolfCalendar.class);
        boolean right = due.equals(has) && Modifier.isFinal(WolfCalendar.class.getModifiers());
        System.out.println(right ? "the face is as due" : "the face is " + has + ", due is " + due);
        if (!right) System.exit(1);
    }
}
