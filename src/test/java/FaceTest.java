import java.io.IOException;
import java.lang.reflect.Constructor;
import java.lang.reflect.Field;
import java.lang.reflect.Member;
import java.lang.reflect.Method;
import java.lang.reflect.Modifier;
import java.nio.file.Files;
import java.nio.file.Path;
import java.util.ArrayList;
import java.util.Arrays;
import java.util.Collections;
import java.util.List;
import java.util.Map;
import java.util.TreeMap;
import java.util.regex.Matcher;
import java.util.regex.Pattern;

/** The class has the document's face and nothing more, and its text keeps clear of what LANGUAGE.md leaves out. */
public final class FaceTest {
    private static final String[] FACE = {
        "int NONE", "int UNKNOWN", "int OUTSIDE", "int STATE", "int FULL", "CrusherLoops()",
        "int letter(int)", "int blank()", "int fault()", "int table()", "int feed(int, int)", "int set(int, int)",
        "int size(int, int)", "long load(int, int)", "long all(int)", "long finer(int, int)", "long at(int, int)",
        "int widest(int, int)", "int run(int)", "int empty()", "int stock(int)", "long missed(int)", "long stocks()",
        "int count(int)", "long digest()"};

    private static final String[] LEFT_OUT = {
        "package ", "->", "::", "static {", "synchronized", "assert ", "finally", "Float.", "Double.", "System.out",
        "String.format", ".hashCode(", "Exact(", "static final double", "static final float", "Exception"};

    private static final Pattern METHOD = Pattern.compile(
            "(?m)^ +(?:public |private )?(?:static )?(?:int|long|void|boolean|double|float) (\\w+)\\(([^)]*)\\) \\{\n");
    private static final Pattern CALL = Pattern.compile("(\\w+)\\(");

    private static final Checks CHECKS = new Checks();

    public static void main(String[] args) throws IOException {
        constants();
        face();
        text();
        methods();
        CHECKS.end("FaceTest");
    }

    private static void constants() {
        CHECKS.due("NONE", CrusherLoops.NONE, -1);
        CHECKS.due("UNKNOWN", CrusherLoops.UNKNOWN, -1001);
        CHECKS.due("OUTSIDE", CrusherLoops.OUTSIDE, -1002);
        CHECKS.due("STATE", CrusherLoops.STATE, -1003);
        CHECKS.due("FULL", CrusherLoops.FULL, -1004);
    }

    private static boolean isSeen(Member member) {
        return !Modifier.isPrivate(member.getModifiers()) && !member.isSynthetic();
    }

    private static String signature(Class<?>[] types) {
        return Arrays.toString(types).replace('[', '(').replace(']', ')');
    }

    private static void face() {
        List<String> seen = new ArrayList<>();
        List<String> hidden = new ArrayList<>();
        for (Field field : CrusherLoops.class.getDeclaredFields()) {
            if (isSeen(field)) {
                seen.add(field.getType() + " " + field.getName());
            }
        }
        for (Constructor<?> constructor : CrusherLoops.class.getDeclaredConstructors()) {
            if (isSeen(constructor)) {
                seen.add("CrusherLoops" + signature(constructor.getParameterTypes()));
            }
        }
        for (Method method : CrusherLoops.class.getDeclaredMethods()) {
            String told = method.getReturnType() + " " + method.getName() + signature(method.getParameterTypes());
            (isSeen(method) ? seen : hidden).add(isSeen(method) ? told : method.getName());
        }
        List<String> face = new ArrayList<>(Arrays.asList(FACE));
        Collections.sort(face);
        Collections.sort(seen);
        System.out.println(face.equals(seen) ? "the face is as told" : "the face is " + seen);
        CHECKS.due("the face is as told", face.equals(seen) ? 1 : 0, 1);
        for (String name : hidden) {
            boolean taken = face.stream().anyMatch(told -> told.contains(" " + name + "("));
            CHECKS.due("private " + name + " bears a public name", taken ? 1 : 0, 0);
        }
        CHECKS.due("public", Modifier.isPublic(CrusherLoops.class.getModifiers()) ? 1 : 0, 1);
        CHECKS.due("final", Modifier.isFinal(CrusherLoops.class.getModifiers()) ? 1 : 0, 1);
        for (Class<?> inside : CrusherLoops.class.getDeclaredClasses()) {
            CHECKS.due(inside + " is static", Modifier.isStatic(inside.getModifiers()) ? 1 : 0, 1);
            CHECKS.due(inside + " is private", Modifier.isPrivate(inside.getModifiers()) ? 1 : 0, 1);
        }
    }

    private static void text() throws IOException {
        String text = Files.readString(Path.of("src/main/java/CrusherLoops.java"));
        for (String word : LEFT_OUT) {
            CHECKS.due("the text has '" + word + "'", text.contains(word) ? 1 : 0, 0);
        }
        CHECKS.due("signs above 127", text.chars().filter(sign -> sign > 127).count(), 0);
    }

    /** Rule 11: methods stay short, take few parameters, and calls go at most eight deep. */
    private static void methods() throws IOException {
        String text = Files.readString(Path.of("src/main/java/CrusherLoops.java"));
        Map<String, String> bodies = new TreeMap<>();
        Matcher method = METHOD.matcher(text);
        while (method.find()) {
            String indent = method.group().substring(0, method.group().indexOf(method.group().trim()));
            String body = text.substring(method.end(), text.indexOf("\n" + indent + "}", method.end() - 1));
            CHECKS.due("two methods named " + method.group(1), bodies.put(method.group(1), body) == null ? 1 : 0, 1);
            CHECKS.due("lines of " + method.group(1) + " above 60", body.lines().count() > 60 ? 1 : 0, 0);
            CHECKS.due("parameters above 7", method.group(2).split(",").length > 7 ? 1 : 0, 0);
        }
        CHECKS.due("methods are found", bodies.size() >= FACE.length - 6 ? 1 : 0, 1);
        for (String name : bodies.keySet()) {
            int depth = depth(bodies, name, 1);
            CHECKS.due("calls from " + name + " go " + depth + " deep", depth > 8 ? 1 : 0, 0);
        }
    }

    private static int depth(Map<String, String> bodies, String name, int ahead) {
        int deepest = ahead;
        Matcher call = CALL.matcher(bodies.get(name));
        while (call.find() && ahead < 20) {
            if (bodies.containsKey(call.group(1))) {
                deepest = Math.max(deepest, depth(bodies, call.group(1), ahead + 1));
            }
        }
        return deepest;
    }
}
