import java.lang.reflect.Constructor;
import java.lang.reflect.Field;
import java.lang.reflect.Method;
import java.lang.reflect.Modifier;
import java.nio.file.Files;
import java.nio.file.Path;
import java.util.ArrayList;
import java.util.Arrays;
import java.util.List;
import java.util.Set;
import java.util.TreeSet;
import java.util.regex.Pattern;

/** What can be seen from outside of the rules of LANGUAGE.md: the face, the classes, the words, the lengths, the room. */
public final class LanguageTests {
    private static final String FACE = """
            int feed(int,int,int,int,int)
            boolean end(int)
            int fault(int)
            int text(int)
            int member(int,int)
            int seat(int)
            boolean manners(int)
            boolean set(int,int,int)
            boolean change(int,int)
            boolean sit(int)
            long round(int,int,int)
            int tally(int)
            long odds(int)
            long passed()
            int turner()
            int bribe(int)
            int yawn(int,int)
            int yawns(int,int)
            int ill()
            int best(int,int)
            int changes(int)
            int know(int,boolean)
            int fits(int)
            int sure(boolean)
            boolean seed(long)
            int sitting()
            int sat(int,int)
            int undo()
            int image()
            int back()
            int count(int)
            """;

    private static int wrong = 0;

    private static void must(boolean holds, String what) {
        if (!holds) {
            wrong++;
            System.out.println("not so: " + what);
        }
    }

    public static void main(String[] args) throws Exception {
        face();
        classes();
        words();
        lengths();
        room();
        System.out.println(wrong == 0 ? "the rules looked at are kept" : wrong + " rules are broken");
        if (wrong != 0) {
            System.exit(1);
        }
    }

    private static String signature(Method m) {
        List<String> types = new ArrayList<>();
        for (Class<?> type : m.getParameterTypes()) {
            types.add(type.getName());
        }
        return m.getReturnType().getName() + " " + m.getName() + "(" + String.join(",", types) + ")";
    }

    private static void face() {
        Class<?> face = MouthHouse.class;
        must(Modifier.isPublic(face.getModifiers()) && Modifier.isFinal(face.getModifiers()), "a public final class");
        Set<String> open = new TreeSet<>();
        Set<String> names = new TreeSet<>();
        for (Method m : face.getDeclaredMethods()) {
            if (Modifier.isPublic(m.getModifiers()) && !Modifier.isStatic(m.getModifiers())) {
                open.add(signature(m));
                names.add(m.getName());
            } else {
                must(Modifier.isPrivate(m.getModifiers()), m + " is private");
            }
        }
        must(open.equals(new TreeSet<>(Arrays.asList(FACE.strip().split("\n")))), "the face's methods: " + open);
        for (Method m : face.getDeclaredMethods()) {
            must(!Modifier.isPrivate(m.getModifiers()) || !names.contains(m.getName()), m + " has a name of its own");
        }
        Constructor<?>[] made = face.getDeclaredConstructors();
        must(made.length == 1 && Modifier.isPublic(made[0].getModifiers()) && made[0].getParameterCount() == 0,
                "one public constructor");
        Set<String> constants = new TreeSet<>();
        for (Field f : face.getDeclaredFields()) {
            if (!Modifier.isPrivate(f.getModifiers())) {
                constants.add(f.getName());
                must(Modifier.isFinal(f.getModifiers()) && Modifier.isStatic(f.getModifiers()), f + " is a constant");
            }
        }
        must(constants.equals(Set.of("NONE", "HIDDEN")), "the face's constants: " + constants);
        must(MouthHouse.NONE == -1 && MouthHouse.HIDDEN == -100000000, "the constants' values");
    }

    private static void classes() {
        List<Class<?>> all = new ArrayList<>(Arrays.asList(MouthHouse.class.getDeclaredClasses()));
        for (Class<?> inside : all) {
            must(Modifier.isStatic(inside.getModifiers()) && Modifier.isPrivate(inside.getModifiers()), inside + " is hidden");
        }
        all.add(MouthHouse.class);
        must(all.size() <= 12, all.size() + " classes");
        for (Class<?> one : all) {
            int fields = 0;
            for (Field f : one.getDeclaredFields()) {
                fields += Modifier.isStatic(f.getModifiers()) ? 0 : 1;
                must(!Modifier.isStatic(f.getModifiers()) || Modifier.isFinal(f.getModifiers()), f + " is final");
            }
            must(fields <= 20, one + " has " + fields + " fields");
            for (Method m : one.getDeclaredMethods()) {
                must(m.getParameterCount() <= 7, m + " takes too much");
            }
        }
    }

    private static String source() throws Exception {
        return Files.readString(Path.of("src/main/java/MouthHouse.java"));
    }

    private static void words() throws Exception {
        String code = source().replaceAll("(?s)/\\*.*?\\*/", "").replaceAll("//[^\n]*", "");
        for (String no : List.of("->", "::", "Exact", "\\bsynchronized\\b", "\\bassert\\b", "\\bfinally\\b", "\\bcatch\\b",
                "\\btry\\b", "System\\.(?!arraycopy)", "Random", "\\binstanceof\\b", "\\bvar\\b", "\\bpackage\\b", "Thread",
                "hashCode", "toString", "\\bNaN\\b", "\\bdouble\\b", "\\bfloat\\b", "String")) {
            must(!Pattern.compile(no).matcher(code).find(), "no " + no + " in the class");
        }
        must(code.chars().allMatch(c -> c < 128), "plain signs alone");
        must(code.split("\nimport ").length + (code.startsWith("import ") ? 0 : -1) == 2, "two imports");
        must(code.split("throw new ").length == 2, "one throw");
    }

    private static void lengths() throws Exception {
        int start = 0;
        String indent = "";
        String[] lines = source().split("\n");
        for (int i = 0; i < lines.length; i++) {
            String line = lines[i];
            must(line.length() <= 120, "line " + (i + 1) + " is short");
            if (line.matches(" +(public|private) .*\\) .*\\{") && !line.contains(" class ")) {
                start = i;
                indent = line.replaceAll("\\S.*", "");
            }
            if (line.equals(indent + "}") && start > 0) {
                must(i - start <= 60, "the method at line " + (start + 1) + " is short");
                start = 0;
            }
        }
    }

    /** One room holds all calls: a call that asks, however dear, makes no object. */
    private static void room() {
        MouthHouse x = new MouthHouse();
        x.feed(0x723b6d3b, 0x6d3b6d3b, 0x6d3b6d3b, 0x6d3b6d6e, 0x32000000);
        x.text(0);
        x.feed(0x793a763d, 0x313f732d, 0x773b793a, 0x642a7300, 0);
        x.text(1);
        must(x.manners(0), "manners hold");
        com.sun.management.ThreadMXBean meter =
                (com.sun.management.ThreadMXBean) java.lang.management.ManagementFactory.getThreadMXBean();
        long self = Thread.currentThread().getId();
        for (int i = 0; i < 3; i++) {
            askAll(x, i);
        }
        long before = meter.getThreadAllocatedBytes(self);
        long between = meter.getThreadAllocatedBytes(self);
        for (int i = 0; i < 10; i++) {
            askAll(x, i);
        }
        long after = meter.getThreadAllocatedBytes(self);
        must(after - between <= between - before, "calls make no objects, but " + (after - between) + " bytes");
    }

    private static void askAll(MouthHouse x, int i) {
        x.set(i % 6, 0, i / 6 % 2);
        x.set(i % 6, 1, i % 4);
        x.change(i % 6, (i + 1) % 6);
        x.sit(543210);
        for (int wish = 0; wish < 3; wish++) {
            x.best(wish, 0);
        }
        x.changes(0);
        x.round(0, 7, 2);
        x.odds(2);
        x.passed();
        x.turner();
        x.bribe(0);
        x.yawns(0, 0);
        x.ill();
        x.know(0, true);
        x.fits(3);
        x.sure(true);
        x.sitting();
        x.sitting();
        x.undo();
        x.image();
        x.back();
        x.fault(0);
        x.fault(1);
        x.feed(0x6d3b6d00, 0, 0, 0, 0);
        x.text(0 + 2);
        x.end(0);
        x.count(4);
    }
}
