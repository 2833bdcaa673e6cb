import java.io.IOException;
import java.lang.reflect.Constructor;
import java.lang.reflect.Field;
import java.lang.reflect.Method;
import java.lang.reflect.Modifier;
import java.nio.file.Files;
import java.nio.file.Path;
import java.util.ArrayList;
import java.util.Arrays;
import java.util.List;
import java.util.regex.Matcher;
import java.util.regex.Pattern;

/** The document's public face, and the rules of LANGUAGE.md that can be seen from outside or in the source. */
public final class RulesTest {
    private static final Path SOURCE = Path.of("src/main/java/ShowRights.java");
    private static final String[] FACE = {
        "write/1", "wipe/0", "fault/0", "lay/0", "sign/1", "why/1", "clash/1", "drop/1", "move/2", "soonest/1", "undo/0",
        "offer/2", "common/2", "begin/2", "broken/1", "point/5", "points/1", "window/5", "longest/1", "best/1", "take/0",
        "count/1"};

    public static void main(String[] args) throws IOException {
        face();
        fields();
        classesInside();
        source(Files.readString(SOURCE));
        nothingIsMade();
        Due.end();
    }

    private static void holds(String rule, boolean so) {
        Due.is(rule, so ? 1 : 0, 1);
    }

    private static void face() {
        List<String> names = new ArrayList<>();
        for (Method method : ShowRights.class.getDeclaredMethods()) {
            String name = method.getName() + "/" + method.getParameterCount();
            if (Modifier.isPrivate(method.getModifiers())) {
                holds("rule 1: a private method named " + method.getName(), isNoneOfFace(method.getName()));
                continue;
            }
            names.add(name);
            holds("rule 1: " + name + " is in the face", Arrays.asList(FACE).contains(name));
            holds("face: " + name + " is public int", Modifier.isPublic(method.getModifiers())
                    && !Modifier.isStatic(method.getModifiers()) && method.getReturnType() == int.class);
            for (Class<?> type : method.getParameterTypes()) holds("face: " + name + " takes int", type == int.class);
        }
        for (String name : FACE) holds("face: " + name + " is there", names.contains(name));
        Constructor<?>[] constructors = ShowRights.class.getDeclaredConstructors();
        holds("face: one public constructor without parameters", constructors.length == 1
                && Modifier.isPublic(constructors[0].getModifiers()) && constructors[0].getParameterCount() == 0);
        holds("face: final", Modifier.isFinal(ShowRights.class.getModifiers()));
    }

    private static boolean isNoneOfFace(String name) {
        for (String known : FACE) if (known.startsWith(name + "/")) return false;
        return true;
    }

    private static void fields() {
        Due.is("BAD", ShowRights.BAD, -1);
        Due.is("NO", ShowRights.NO, -2);
        Due.is("FULL", ShowRights.FULL, -3);
        Due.is("NONE", ShowRights.NONE, -4);
        for (Field field : ShowRights.class.getDeclaredFields()) {
            boolean known = Arrays.asList("BAD", "NO", "FULL", "NONE").contains(field.getName());
            holds("rule 1: " + field.getName(), known || Modifier.isPrivate(field.getModifiers()));
            boolean still = !Modifier.isStatic(field.getModifiers()) || Modifier.isFinal(field.getModifiers());
            holds("rule 5: " + field.getName(), still);
        }
    }

    private static void classesInside() {
        Class<?>[] inside = ShowRights.class.getDeclaredClasses();
        holds("rule 11: classes", inside.length <= 11);
        for (Class<?> one : inside) {
            holds("rule 2: " + one.getName(), Modifier.isStatic(one.getModifiers()) && !Modifier.isPublic(one.getModifiers()));
            holds("rule 11: fields of " + one.getName(), one.getDeclaredFields().length <= 20);
            for (Method method : one.getDeclaredMethods()) {
                holds("rule 1: " + one.getName() + "." + method.getName(), isNoneOfFace(method.getName()));
                holds("rule 11: " + one.getName() + "." + method.getName(), method.getParameterCount() <= 7);
            }
        }
    }

    private static void source(String whole) {
        String code = whole.replaceAll("(?s)/\\*.*?\\*/", "").replaceAll("//[^\n]*", "")
                .replaceAll("\"[^\"\n]*\"", "TEXT").replaceAll("'[^'\n]*'", "SIGN");
        String[] banned = {"throw", "throws", "try", "catch", "synchronized", "assert", "import", "package", "lambda",
            "equals", "hashCode", "toString", "System", "Object", "protected"};
        for (String word : banned) {
            holds("rule 6: " + word, !Pattern.compile("\\b" + word + "\\b").matcher(code).find());
        }
        holds("rule 2: no lambda, no method reference", !code.contains("->") && !code.contains("::"));
        holds("rule 4: nothing that ends in Exact", !code.contains("Exact"));
        Matcher call = Pattern.compile("\\b(Integer|Long|Math|Arrays)\\.(\\w+)").matcher(code);
        while (call.find()) holds("rule 4: " + call.group(), call.group(2).equals("bitCount"));
        for (int i = 0; i < whole.length(); i++) {
            if (whole.charAt(i) > 126) holds("a sign above 126 at " + i, false);
        }
        methodsAreShort(whole);
    }

    private static void methodsAreShort(String whole) {
        String[] lines = whole.split("\n");
        Pattern head = Pattern.compile("( {4}| {8})\\w[^;=]*\\(.*\\) \\{");
        int methods = 0;
        for (int start = 0; start < lines.length; start++) {
            Matcher matcher = head.matcher(lines[start]);
            if (!matcher.matches() || lines[start].matches(" *(if|for|while|switch) .*")) continue;
            methods++;
            int end = start;
            while (end < lines.length && !lines[end].equals(matcher.group(1) + "}")) end++;
            holds("rule 11: the method of line " + (start + 1) + " is short", end - start < 60);
        }
        holds("rule 11: the methods were found", methods > 50);
    }

    /** All calls of a run live in one room: past the constructor no call may make anything. */
    private static void nothingIsMade() {
        com.sun.management.ThreadMXBean bean =
                (com.sun.management.ThreadMXBean) java.lang.management.ManagementFactory.getThreadMXBean();
        long id = Thread.currentThread().getId();
        ShowRights[] all = new ShowRights[40];
        for (int i = 0; i < all.length; i++) all[i] = new ShowRights();
        everyCall(all[0]);
        bean.getThreadAllocatedBytes(id);
        long before = bean.getThreadAllocatedBytes(id);
        for (int i = 1; i < all.length; i++) everyCall(all[i]);
        long made = bean.getThreadAllocatedBytes(id) - before;
        // asking the machine makes a little itself; one object a call would be far above this
        holds("the room: " + made + " bytes made by calls", made < 4096);
    }

    private static void everyCall(ShowRights x) {
        for (int k = 0; k < 3; k++) {
            for (int i = 0; i < 16; i++) x.write("o1,1,1,0,0,0,12;".charAt(i));
            x.fault();
            for (int i = 0; i < 6; i++) {
                x.why(i);
                x.sign(i);
                x.clash(i);
                x.drop(i);
                x.move(i, i);
                x.soonest(i);
                x.offer(i, 8);
                x.common(i, 0);
                x.begin(i, 0);
                x.broken(i);
                x.point(i, 0, 0, 5, 1);
                x.points(i);
                x.window(i, 0, 0, 0, 1);
                x.longest(i);
                x.best(i);
                x.count(i);
            }
            x.take();
            x.undo();
            x.lay();
            x.wipe();
        }
    }
}
