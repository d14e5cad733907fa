import java.lang.reflect.Constructor;
import java.lang.reflect.Field;
import java.lang.reflect.Method;
import java.lang.reflect.Modifier;
import java.util.ArrayList;
import java.util.Arrays;
import java.util.List;
import java.util.TreeSet;

/** The class shows the document's face, and nothing more. */
public final class FaceTest {
    private static final String[] METHODS = {
        "int feed(int, int, int, int, int)", "int net(int, int)", "boolean put(int, int)", "int take(int)",
        "boolean line(int, int, int, boolean)", "int told(int, int)", "int row(int, int, boolean)",
        "int reach(int, int)", "int make(int, int, int, int)", "int change(int, int)", "int part(int, int, int)",
        "int drawn(int, int, int, int)", "int list(int, int)", "int free()", "int maps(int, int, int)",
        "int map(int, int, int, int)", "int becomes(int, int, int, int)", "int left(int, int, int)",
        "int fits(int, int)", "int search(int, int)", "int tighten(int, int)", "int image(int, int, boolean, int)",
        "int weigh(int, int)", "int cheapest(int, int, boolean, int)", "int behind(int, int, int, int, int)",
        "int core(int, int)", "int retraction(int, int, int)", "int steps(int, int, int, int)",
        "int crowds(int, int, int)", "int operations(int, int)", "int operation(int, int, int, int, int, int)",
        "int duality(int, int, int, boolean)", "int colours(int, int)", "int levels(int)", "int folded(int, int)",
        "int orbit(int, int)", "int between(int, int, int, boolean)", "int unlike(int, int, int, boolean)",
        "int ways(int, int, int, int)", "int letter(int, int)", "int count(int)", "int keep()", "int undo()",
    };

    public static void main(String[] args) {
        List<String> wrong = new ArrayList<>();
        Class<?> face = NetMaps.class;
        if (!Modifier.isPublic(face.getModifiers()) || !Modifier.isFinal(face.getModifiers())) {
            wrong.add("the class is not public and final");
        }
        TreeSet<String> shown = new TreeSet<>();
        TreeSet<String> publicNames = new TreeSet<>();
        for (Method method : face.getDeclaredMethods()) {
            if (!Modifier.isPrivate(method.getModifiers()) && !method.isSynthetic()) {
                shown.add(signature(method));
                publicNames.add(method.getName());
            }
        }
        if (!shown.equals(new TreeSet<>(Arrays.asList(METHODS)))) {
            wrong.add("the methods shown are " + shown);
        }
        for (Method method : face.getDeclaredMethods()) {
            if (Modifier.isPrivate(method.getModifiers()) && publicNames.contains(method.getName())) {
                wrong.add("a private method bears the name of a public one: " + method);
            }
        }
        for (Field field : face.getDeclaredFields()) {
            boolean none = field.getName().equals("NONE");
            if (none != Modifier.isPublic(field.getModifiers()) || !none && !Modifier.isPrivate(field.getModifiers())) {
                wrong.add("field " + field);
            }
        }
        Constructor<?>[] made = face.getDeclaredConstructors();
        if (made.length != 1 || made[0].getParameterCount() != 0 || !Modifier.isPublic(made[0].getModifiers())) {
            wrong.add("constructors " + Arrays.toString(made));
        }
        for (Class<?> inside : face.getDeclaredClasses()) {
            int is = inside.getModifiers();
            if (!Modifier.isStatic(is) || Modifier.isPublic(is) || Modifier.isProtected(is)) {
                wrong.add("class " + inside);
            }
            int own = 0;
            for (Field field : inside.getDeclaredFields()) {
                own += Modifier.isStatic(field.getModifiers()) ? 0 : 1;
            }
            if (own > 20) {
                wrong.add(inside + " has " + own + " fields");
            }
        }
        if (NetMaps.NONE != -1) {
            wrong.add("NONE is " + NetMaps.NONE);
        }
        for (String fault : wrong) {
            System.out.println("face: " + fault);
        }
        System.out.println(wrong.isEmpty() ? "the face is the document's" : "the face is not the document's");
        if (!wrong.isEmpty()) {
            System.exit(1);
        }
    }

    private static String signature(Method method) {
        StringBuilder text = new StringBuilder(method.getReturnType() + " " + method.getName() + "(");
        for (Class<?> type : method.getParameterTypes()) {
            text.append(text.charAt(text.length() - 1) == '(' ? "" : ", ").append(type);
        }
        return text.append(')').toString();
    }
}
