import java.lang.management.ManagementFactory;
import java.lang.reflect.Constructor;
import java.lang.reflect.Field;
import java.lang.reflect.Method;
import java.lang.reflect.Modifier;
import java.nio.file.Files;
import java.nio.file.Path;
import java.util.ArrayList;
import java.util.List;
import java.util.Set;
import java.util.TreeSet;
import java.util.regex.Matcher;
import java.util.regex.Pattern;

/** The face of the document, the rules of LANGUAGE.md that can be seen from outside, and the room. */
public final class RulesTest {
    private static final String FACE = """
        int account(int)
        int bill(int,int,int)
        int type(int)
        int clear()
        int read()
        int days(int)
        int spend(int)
        int jar(int)
        int undo()
        int of(int,int)
        int now(int)
        int truly()
        int then(int,int)
        int low(int,int)
        int below()
        int most(int)
        int need(int)
        int move()
        int monthly(int)
        int dear()
        int note(int,int,int,int,int)
        int forget()
        int is(int)
        int look(int)
        int two(int,int)
        int boiler(int,int,int)
        int years(int,int)
        long part(int)
        int image(int)
        int from(int)
        int status(int)
        int count(int)
        long digest()
        """;

    public static void main(String[] args) throws Exception {
        face();
        nested();
        source(Files.readString(Path.of("src/main/java/BeforeThird.java")));
        room();
        Due.end();
    }

    private static String signature(Method m) {
        List<String> types = new ArrayList<>();
        for (Class<?> c : m.getParameterTypes()) {
            types.add(c.getName());
        }
        return m.getReturnType().getName() + " " + m.getName() + "(" + String.join(",", types) + ")";
    }

    private static void face() {
        Due.holds("public and final", Modifier.isPublic(BeforeThird.class.getModifiers())
            && Modifier.isFinal(BeforeThird.class.getModifiers()));
        Set<String> got = new TreeSet<>();
        Set<String> names = new TreeSet<>();
        for (Method m : BeforeThird.class.getDeclaredMethods()) {
            if (Modifier.isPublic(m.getModifiers())) {
                got.add(signature(m));
                names.add(m.getName());
            }
        }
        Due.holds("the methods of the face, and no others: " + got, got.equals(new TreeSet<>(FACE.lines().toList())));
        for (Method m : BeforeThird.class.getDeclaredMethods()) {
            boolean open = Modifier.isPublic(m.getModifiers());
            Due.holds(m + " is public or private", open || Modifier.isPrivate(m.getModifiers()));
            Due.holds(m + " bears a name of its own", open || !names.contains(m.getName()));
        }
        Set<String> constants = new TreeSet<>();
        for (Field f : BeforeThird.class.getDeclaredFields()) {
            if (!Modifier.isPrivate(f.getModifiers())) {
                constants.add(f.getName());
            }
        }
        Due.holds("the constants: " + constants, constants.equals(Set.of("NONE", "BAD", "NO", "FULL")));
        Due.is("NONE", BeforeThird.NONE, -1);
        Due.is("BAD", BeforeThird.BAD, -2);
        Due.is("NO", BeforeThird.NO, -3);
        Due.is("FULL", BeforeThird.FULL, -4);
        Constructor<?>[] makers = BeforeThird.class.getDeclaredConstructors();
        Due.holds("one public constructor", makers.length == 1 && Modifier.isPublic(makers[0].getModifiers())
            && makers[0].getParameterCount() == 0);
    }

    private static void nested() {
        List<Class<?>> classes = new ArrayList<>(List.of(BeforeThird.class.getDeclaredClasses()));
        Due.holds("rule 11: some twelve classes", classes.size() + 1 <= 12);
        classes.add(BeforeThird.class);
        for (Class<?> c : classes) {
            Due.holds(c + " is static", c == BeforeThird.class || Modifier.isStatic(c.getModifiers()));
            Due.holds(c + " is not open", c == BeforeThird.class || !Modifier.isPublic(c.getModifiers()));
            int own = 0;
            for (Field f : c.getDeclaredFields()) {
                own += Modifier.isStatic(f.getModifiers()) ? 0 : 1;
                Due.holds(f + ": static is final", !Modifier.isStatic(f.getModifiers())
                    || Modifier.isFinal(f.getModifiers()));
            }
            Due.holds(c + " has some twenty fields", own <= 20);
            for (Method m : c.getDeclaredMethods()) {
                Due.holds(m + " takes at most seven", m.getParameterCount() <= 7);
            }
        }
    }

    private static void source(String all) {
        String code = all.replaceAll("(?s)/\\*.*?\\*/", " ").replaceAll("//[^\n]*", "");
        String bare = code.replaceAll("\"[^\"\n]*\"", "\"\"").replaceAll("'[^'\n]*'", "' '");
        String[] ruledOut = {
            "throw", "throws", "try", "catch", "finally", "synchronized", "assert", "volatile", "native", "package",
            "protected", "Object", "Class", "Thread", "Random", "equals", "hashCode", "toString", "yield", "var"};
        for (String word : ruledOut) {
            Due.holds("no " + word, !Pattern.compile("\\b" + word + "\\b").matcher(bare).find());
        }
        for (String sign : new String[] {"->", "::", "@", "\\u", "static {"}) {
            Due.holds("no " + sign, !bare.contains(sign));
        }
        Matcher imports = Pattern.compile("import ([^;]+);").matcher(bare);
        while (imports.find()) {
            Due.holds("import of " + imports.group(1), imports.group(1).equals("java.util.Arrays"));
        }
        Matcher calls = Pattern.compile("\\b(System|Math|Arrays|Integer|Long)\\.(\\w+)").matcher(bare);
        Set<String> listed = Set.of("System.arraycopy", "Math.max", "Math.min", "Math.floorMod", "Math.floorDiv",
            "Arrays.fill");
        while (calls.find()) {
            Due.holds(calls.group() + " is listed", listed.contains(calls.group()));
        }
        Due.holds("rule 12: nothing is made but in constructors", !Pattern.compile("(?m)^ {12}.*\\bnew\\b").matcher(bare).find());
        methodLengths(all);
    }

    private static void methodLengths(String all) {
        Matcher methods = Pattern.compile("(?m)^( {4}| {8})[^ }\n/*][^;=\n]*\\) \\{\n").matcher(all);
        int seen = 0;
        while (methods.find()) {
            int end = all.indexOf("\n" + methods.group(1) + "}\n", methods.start());
            String body = all.substring(methods.start(), end);
            seen++;
            Due.holds("short: " + methods.group().trim(), body.lines().count() <= 60);
        }
        Due.holds("methods were seen", seen > 60);
    }

    /** After the constructor no call makes an object. */
    private static void room() {
        com.sun.management.ThreadMXBean bean =
            (com.sun.management.ThreadMXBean) ManagementFactory.getThreadMXBean();
        long sum = calls(new BeforeThird());
        BeforeThird x = new BeforeThird();
        long id = Thread.currentThread().getId();
        bean.getThreadAllocatedBytes(id);
        long before = bean.getThreadAllocatedBytes(id);
        long again = calls(x);
        long made = bean.getThreadAllocatedBytes(id) - before;
        Due.is("the same calls, the same answers", again, sum);
        Due.holds("calls make nothing (" + made + " bytes)", made < 2000);
        before = bean.getThreadAllocatedBytes(id);
        BeforeThird y = new BeforeThird();
        made = bean.getThreadAllocatedBytes(id) - before;
        Due.holds("an object is small (" + made + " bytes)", made < 6000 && y.count(0) == 0);
    }

    private static long calls(BeforeThird x) {
        long sum = x.account(200) + x.bill(4, 7, 20) + x.bill(5, 28, 60) + x.bill(3, 9, 40) + x.bill(1, 14, 30);
        sum += x.note(1, 7, 8, 0, -60);
        for (int i = 0; i < 14; i++) {
            sum += x.days(9) + x.spend(i) + x.jar(1) + x.undo() + x.of(1, 3) + x.now(0) + x.truly();
            sum += x.then(99, 0) + x.low(99, 1) + x.below() + x.most(99) + x.need(99) + x.move() + x.monthly(1);
            sum += x.dear() + x.is(1) + x.look(1) + x.two(28, 0) + x.boiler(99, 99, 3) + x.years(7, 60) + x.part(0);
            sum += x.image(0) + x.from(0) + x.type('a') + x.read() + x.clear() + x.status(0) + x.count(0) + x.digest();
        }
        return sum;
    }
}
