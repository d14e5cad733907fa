import java.io.IOException;
import java.lang.reflect.Constructor;
import java.lang.reflect.Field;
import java.lang.reflect.Method;
import java.lang.reflect.Modifier;
import java.nio.file.Files;
import java.nio.file.Path;
import java.util.ArrayList;
import java.util.Arrays;
import java.util.List;
import java.util.TreeSet;
import java.util.regex.Matcher;
import java.util.regex.Pattern;

/** The class shows the document's face, and nothing more. */
public final class FaceTest {
    private static final Path DOCUMENT = Path.of("..", "shared", "DOC.md");
    private static final Path SOURCE = Path.of("src", "main", "java", "NetMaps.java");
    private static final Pattern CALL = Pattern.compile("    public ((?:int|boolean) (\\w+)\\(.*\\))(?: \\{|;)");
    private static final int FIELDS = 20;
    private static final List<String> CALLS = List.of(
        "int feed(int a, int b, int c, int d, int e)",
        "int net(int d, int n)",
        "boolean put(int d, int n)",
        "int take(int d)",
        "boolean line(int d, int a, int b, boolean is)",
        "int told(int d, int what)",
        "int row(int d, int a, boolean to)",
        "int reach(int d, int a)",
        "int make(int d, int e, int f, int how)",
        "int change(int d, int how)",
        "int part(int d, int some, int e)",
        "int drawn(int d, int n, int seed, int tenths)",
        "int list(int a, int some)",
        "int free()",
        "int maps(int d, int e, int sort)",
        "int map(int d, int e, int k, int a)",
        "int becomes(int d, int e, int a, int x)",
        "int left(int d, int e, int a)",
        "int fits(int d, int e)",
        "int search(int d, int e)",
        "int tighten(int d, int e)",
        "int image(int d, int e, boolean fewest, int what)",
        "int weigh(int x, int weight)",
        "int cheapest(int d, int e, boolean least, int what)",
        "int behind(int d, int e, int f, int k, int l)",
        "int core(int d, int what)",
        "int retraction(int d, int k, int a)",
        "int steps(int d, int e, int k, int l)",
        "int crowds(int d, int e, int what)",
        "int operations(int d, int what)",
        "int operation(int d, int what, int k, int x, int y, int z)",
        "int duality(int x, int d, int n, boolean first)",
        "int colours(int d, int q)",
        "int levels(int d)",
        "int folded(int d, int what)",
        "int orbit(int d, int a)",
        "int between(int d, int e, int n, boolean first)",
        "int unlike(int d, int e, int n, boolean first)",
        "int ways(int d, int a, int b, int k)",
        "int letter(int d, int k)",
        "int count(int what)",
        "int keep()",
        "int undo()");

    private static final List<String> wrong = new ArrayList<>();

    public static void main(String[] args) throws IOException {
        List<String> source = Files.readAllLines(SOURCE);
        lookAtClass();
        lookAtMethods();
        lookAtMembers();
        lookAtClassesInside();
        lookAtSource(source);
        if (Files.isReadable(DOCUMENT)) {
            List<String> document = Files.readAllLines(DOCUMENT);
            lookAtFace(document);
            lookAtPromises(document);
            lookAtHeadings(document, source);
        }
        for (String fault : wrong) {
            System.out.println("face: " + fault);
        }
        System.out.println(wrong.isEmpty() ? "the face is the document's" : "the face is not the document's");
        if (!wrong.isEmpty()) {
            System.exit(1);
        }
    }

    // ---- as it is compiled

    private static void lookAtClass() {
        int is = NetMaps.class.getModifiers();
        if (!Modifier.isPublic(is) || !Modifier.isFinal(is)) {
            wrong.add("the class is not public and final");
        }
        if (NetMaps.NONE != -1) {
            wrong.add("NONE is " + NetMaps.NONE);
        }
    }

    private static void lookAtMethods() {
        TreeSet<String> due = new TreeSet<>();
        for (String call : CALLS) {
            due.add(call.replaceAll(" \\w+(?=[,)])", ""));
        }
        TreeSet<String> shown = new TreeSet<>();
        TreeSet<String> publicNames = new TreeSet<>();
        for (Method method : NetMaps.class.getDeclaredMethods()) {
            if (!Modifier.isPrivate(method.getModifiers()) && !method.isSynthetic()) {
                shown.add(signature(method));
                publicNames.add(method.getName());
            }
        }
        if (!shown.equals(due)) {
            wrong.add("the methods shown are " + shown + ", due are " + due);
        }
        for (Method method : NetMaps.class.getDeclaredMethods()) {
            if (Modifier.isPrivate(method.getModifiers()) && publicNames.contains(method.getName())) {
                wrong.add("a private method bears the name of a public one: " + method);
            }
        }
    }

    private static String signature(Method method) {
        StringBuilder text = new StringBuilder(method.getReturnType() + " " + method.getName() + "(");
        for (Class<?> type : method.getParameterTypes()) {
            text.append(text.charAt(text.length() - 1) == '(' ? "" : ", ").append(type);
        }
        return text.append(')').toString();
    }

    private static void lookAtMembers() {
        for (Field field : NetMaps.class.getDeclaredFields()) {
            int is = field.getModifiers();
            boolean none = field.getName().equals("NONE");
            boolean constant = Modifier.isStatic(is) && Modifier.isFinal(is) && field.getType() == int.class;
            if (none != Modifier.isPublic(is) || !none && !Modifier.isPrivate(is) || none && !constant) {
                wrong.add("field " + field);
            }
        }
        Constructor<?>[] made = NetMaps.class.getDeclaredConstructors();
        if (made.length != 1 || made[0].getParameterCount() != 0 || !Modifier.isPublic(made[0].getModifiers())) {
            wrong.add("constructors " + Arrays.toString(made));
        }
    }

    private static void lookAtClassesInside() {
        for (Class<?> inside : NetMaps.class.getDeclaredClasses()) {
            int is = inside.getModifiers();
            if (!Modifier.isStatic(is) || Modifier.isPublic(is) || Modifier.isProtected(is)) {
                wrong.add("class " + inside);
            }
            int own = 0;
            for (Field field : inside.getDeclaredFields()) {
                own += Modifier.isStatic(field.getModifiers()) ? 0 : 1;
            }
            if (own > FIELDS) {
                wrong.add(inside + " has " + own + " fields");
            }
        }
    }

    // ---- as it is written

    /** The face is written down word by word, the names of what is given to a call too. */
    private static void lookAtSource(List<String> source) {
        List<String> lines = new ArrayList<>(List.of("public final class NetMaps {",
                "    public static final int NONE = -1;", "    public NetMaps() {"));
        for (String call : CALLS) {
            lines.add("    public " + call + " {");
        }
        for (String line : lines) {
            if (!source.contains(line)) {
                wrong.add("the source has no line '" + line + "'");
            }
        }
    }

    // ---- as the document says

    private static void lookAtFace(List<String> document) {
        int from = document.indexOf("```java");
        int to = from + 1;
        while (from >= 0 && to < document.size() && !document.get(to).equals("```")) {
            to++;
        }
        List<String> due = new ArrayList<>(List.of("public final class NetMaps {",
                "    public static final int NONE = -1;", "    public NetMaps();"));
        for (String call : CALLS) {
            due.add("    public " + call + ";");
        }
        due.add("}");
        List<String> face = from < 0 ? List.of() : document.subList(from + 1, to);
        if (!face.equals(due)) {
            wrong.add("the document's face is " + face);
        }
    }

    /** Promise 2 and those behind it are about the calls of the face, one behind the other. */
    private static void lookAtPromises(List<String> document) {
        for (int i = 0; i < CALLS.size(); i++) {
            String name = CALLS.get(i).replaceAll("^\\w+ |\\(.*", "");
            int at = document.indexOf("## Promise " + (i + 2) + ": " + name);
            if (at < 0 || at + 2 >= document.size() || !document.get(at + 2).startsWith("`" + CALLS.get(i) + "`: ")) {
                wrong.add("promise " + (i + 2) + " is not about " + CALLS.get(i));
            }
        }
    }

    /** Where the document names a heading ahead of some calls, the source has it ahead of these alone. */
    private static void lookAtHeadings(List<String> document, List<String> source) {
        Pattern heading = Pattern.compile("Ahead of the calls? (.*) the interface says: (---- .*)\\.");
        int headings = 0;
        for (String line : document) {
            Matcher said = heading.matcher(line);
            if (said.matches()) {
                headings++;
                TreeSet<String> due = new TreeSet<>(List.of(said.group(1).replace("`", "").split(", ")));
                TreeSet<String> behind = callsBehind(source, "    // " + said.group(2));
                if (!behind.equals(due)) {
                    wrong.add("behind " + said.group(2) + " the source has " + behind + ", due are " + due);
                }
            }
        }
        if (headings == 0) {
            wrong.add("the document names no headings");
        }
    }

    private static TreeSet<String> callsBehind(List<String> source, String heading) {
        TreeSet<String> names = new TreeSet<>();
        int from = source.indexOf(heading);
        for (int i = from + 1; from >= 0 && i < source.size() && !source.get(i).startsWith("    // ---- "); i++) {
            Matcher call = CALL.matcher(source.get(i));
            if (call.matches()) {
                names.add(call.group(2));
            }
        }
        return names;
    }
}
