import java.lang.reflect.Constructor;
import java.lang.reflect.Field;
import java.lang.reflect.Method;
import java.lang.reflect.Modifier;
import java.nio.file.Files;
import java.nio.file.Path;
import java.util.Arrays;
import java.util.HashSet;
import java.util.Set;
import java.util.TreeSet;
import java.util.regex.Matcher;
import java.util.regex.Pattern;

/** The face is the document's and no more, and the source keeps to what of LANGUAGE.md can be seen from outside. */
public final class FaceTest {
    private static final String[] FACE = {
        "int figure(int,int,int)", "int limb(int,int,int,int,int,int)", "int string(int,int,int,int)",
        "boolean place(int,int,int)", "boolean pull(int,int,int)", "boolean mend(int,int,boolean)", "int set(int,int)",
        "int of(int,int)", "int at(int,int,int)", "int pulled(int,int,int)", "int sign(int)", "boolean end(int)",
        "int score(int)", "int play(int)", "int again()", "int met(int,int)", "int touch(int,int)",
        "int meeting(int,int,int)", "int count(int)", "boolean bars(int)", "int pass(int)", "boolean back()",
        "int bar(int)", "int wound(int,int)", "int free()", "int alike(int)", "int undo()", "int scene(int)",
        "int clear()", "int cast(int)", "long reach(int,int,int,int,int)", "int seen(int,int,int,int)",
        "int broken(int)", "int row(int)"};

    public static void main(String[] args) throws Exception {
        methods();
        fieldsAndConstructors();
        nested();
        source(args.length > 0 ? args[0] : "src/main/java/PuppetBridge.java");
        made();
        Due.finish("FaceTest");
    }

    private static String told(Method m) {
        StringBuilder b = new StringBuilder(m.getReturnType() + " " + m.getName() + "(");
        for (int i = 0; i < m.getParameterCount(); i++) {
            b.append(i == 0 ? "" : ",").append(m.getParameterTypes()[i]);
        }
        return b.append(')').toString();
    }

    private static void methods() {
        Set<String> want = new TreeSet<>(Arrays.asList(FACE));
        Set<String> names = new HashSet<>();
        for (String f : FACE) {
            names.add(f.substring(f.indexOf(' ') + 1, f.indexOf('(')));
        }
        Set<String> got = new TreeSet<>();
        for (Method m : PuppetBridge.class.getDeclaredMethods()) {
            if (Modifier.isPublic(m.getModifiers())) {
                got.add(told(m));
            } else {
                Due.yes(m + " is private", Modifier.isPrivate(m.getModifiers()));
                Due.no(m + " bears a public name", names.contains(m.getName()));
            }
        }
        Due.yes("public methods: " + got, got.equals(want));
        for (Class<?> c : PuppetBridge.class.getDeclaredClasses()) {
            for (Method m : c.getDeclaredMethods()) {
                Due.no(m + " bears a public name", Modifier.isPrivate(m.getModifiers()) && names.contains(m.getName()));
                Due.yes(m + " has at most seven parameters", m.getParameterCount() <= 7);
            }
        }
    }

    private static void fieldsAndConstructors() {
        for (Field f : PuppetBridge.class.getDeclaredFields()) {
            boolean face = f.getName().equals("NONE");
            Due.yes(f + " is as visible as it should be", Modifier.isPublic(f.getModifiers()) == face
                && (face || Modifier.isPrivate(f.getModifiers())));
        }
        Constructor<?>[] makers = PuppetBridge.class.getDeclaredConstructors();
        Due.is("constructors", makers.length, 1);
        Due.yes("the constructor is public", Modifier.isPublic(makers[0].getModifiers()));
        Due.yes("the class is final", Modifier.isFinal(PuppetBridge.class.getModifiers()));
    }

    private static void nested() {
        Class<?>[] all = PuppetBridge.class.getDeclaredClasses();
        Due.yes("at most some twelve classes", all.length + 1 <= 12);
        for (Class<?> c : all) {
            Due.yes(c + " is static", Modifier.isStatic(c.getModifiers()));
            Due.no(c + " is public", Modifier.isPublic(c.getModifiers()));
            int fields = 0;
            for (Field f : c.getDeclaredFields()) {
                if (Modifier.isStatic(f.getModifiers())) {
                    Due.yes(f + " is final", Modifier.isFinal(f.getModifiers()));
                } else {
                    fields++;
                }
            }
            Due.yes(c + " has at most twenty fields", fields <= 20);
        }
    }

    private static void source(String file) throws Exception {
        String code = Files.readString(Path.of(file)).replaceAll("(?s)/\\*.*?\\*/", "").replaceAll("//[^\n]*", "");
        String[] banned = {"->", "::", "Exact", "catch", "finally", "synchronized", "assert ", "package ", "interface ",
            "java.io", "System.out", "System.nano", "System.current", "Random", "double", "float", "hashCode", "instanceof"};
        for (String word : banned) {
            Due.no("the source has " + word, code.contains(word));
        }
        bodies(code);
        int imports = code.split("\nimport |^import ", -1).length - 1;
        Due.is("imports", imports, 1);
        for (int i = 0; i < code.length(); i++) {
            if (code.charAt(i) > 126) {
                Due.is("a sign above 126 at " + i, code.charAt(i), 0);
            }
        }
    }

    /** Rule 8: a method that calls itself is private and static; rule 11: methods stay short. */
    private static void bodies(String code) {
        Matcher head = Pattern.compile("\n +([\\w\\[\\] ]+) (\\w+)\\([^()]*\\)[\\w ]* \\{\n").matcher(code);
        int methods = 0;
        while (head.find()) {
            int end = head.end();
            for (int open = 1; open > 0 && end < code.length(); end++) {
                open += code.charAt(end) == '{' ? 1 : code.charAt(end) == '}' ? -1 : 0;
            }
            String name = head.group(2);
            String body = code.substring(head.end(), end);
            boolean itself = Pattern.compile("(?<![.\\w])(this\\.)?" + name + "\\(").matcher(body).find();
            Due.yes(name + " calls itself", !itself || head.group(1).startsWith("private static "));
            Due.yes(name + " is short", body.split("\n").length <= 60);
            methods++;
        }
        Due.yes("methods found: " + methods, methods > 100);
    }

    /** One room for all calls of a run: no call makes anything but what it throws. */
    private static void made() {
        com.sun.management.ThreadMXBean bean =
            (com.sun.management.ThreadMXBean) java.lang.management.ManagementFactory.getThreadMXBean();
        calls(new PuppetBridge());
        long thread = Thread.currentThread().getId();
        PuppetBridge x = new PuppetBridge();
        bean.getThreadAllocatedBytes(thread);
        long before = bean.getThreadAllocatedBytes(thread);
        calls(x);
        long bytes = bean.getThreadAllocatedBytes(thread) - before;
        Due.yes("the calls made " + bytes + " bytes", bytes < 2000);
        before = bean.getThreadAllocatedBytes(thread);
        new PuppetBridge();
        bytes = bean.getThreadAllocatedBytes(thread) - before;
        Due.yes("a new object made " + bytes + " bytes", bytes < 30000);
    }

    private static void calls(PuppetBridge x) {
        for (int f = 0; f < 4; f++) {
            x.figure(10, 8, 8);
            x.limb(f, 0, 1, 5, 8, 8);
            for (int s = 0; s < 8; s++) {
                x.string(f, s % 2, 1, 999);
            }
            x.sign('(' << 24 | 'a' << 16 | '9' << 8 | ')');
            x.sign('*' << 24 | '9' << 16);
            x.end(6);
            x.score(f);
            x.seen(f, 7, 0, 1);
        }
        x.bars(5);
        for (int i = 0; i < 8; i++) {
            x.scene(15);
            x.pass(1 + i % 4);
        }
        for (int i = 0; i < 8; i++) {
            x.reach(0, 1, 7, 0, 0);
            x.broken(i % 4);
            x.cast(3);
            x.undo();
            x.alike(2);
            x.meeting(0, 3, 100);
            x.play(100);
        }
    }
}
