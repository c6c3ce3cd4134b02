import java.lang.management.ManagementFactory;
import java.lang.reflect.Constructor;
import java.lang.reflect.Field;
import java.lang.reflect.Method;
import java.lang.reflect.Modifier;
import java.nio.file.Files;
import java.nio.file.Path;
import java.util.ArrayList;
import java.util.List;
import java.util.Set;
import java.util.TreeSet;
import java.util.regex.Matcher;
import java.util.regex.Pattern;

/** The face of the document, and those rules of LANGUAGE.md that a program can look at. */
public final class LanguageTest {
    private static int wrong = 0;

    private static final Set<String> METHODS = Set.of(
        "int person(int,int,int)", "int write(int,long)", "int wipe()", "int fault()", "int lay()", "int office(int,int)",
        "int may(int,int,int)", "int lack(int,int,int)", "int reach(int)", "int round(int,int)", "int ring(int,int)",
        "int back(int)", "int opened(int,int,int)", "int cheapest(int,int,int)", "int soonest(int,int)", "int plan(int,int)",
        "int noPlan(int)", "int judge(int,int)", "int mend(int,int,int)", "int queue(int,int)", "int keep()", "int restore()",
        "int count(int)");

    private static void must(boolean so, String told) {
        if (!so) {
            wrong++;
            System.out.println("not so: " + told);
        }
    }

    private static String signature(Method m) {
        StringBuilder b = new StringBuilder(m.getReturnType().getName() + " " + m.getName() + "(");
        Class<?>[] types = m.getParameterTypes();
        for (int i = 0; i < types.length; i++) {
            b.append(i > 0 ? "," : "").append(types[i].getName());
        }
        return b.append(")").toString();
    }

    private static void face() throws Exception {
        Class<?> c = PaperRings.class;
        must(Modifier.isPublic(c.getModifiers()) && Modifier.isFinal(c.getModifiers()), "public final class");
        Set<String> open = new TreeSet<>();
        Set<String> names = new TreeSet<>();
        for (Method m : c.getDeclaredMethods()) {
            if (!Modifier.isPrivate(m.getModifiers()) && !m.isSynthetic()) {
                must(Modifier.isPublic(m.getModifiers()) && !Modifier.isStatic(m.getModifiers()), "public: " + m);
                open.add(signature(m));
                names.add(m.getName());
            }
        }
        must(open.equals(new TreeSet<>(METHODS)), "the methods of the document: " + open);
        Constructor<?>[] made = c.getDeclaredConstructors();
        must(made.length == 1 && Modifier.isPublic(made[0].getModifiers()) && made[0].getParameterCount() == 0, "constructor");
        Set<String> constants = new TreeSet<>();
        for (Field f : c.getDeclaredFields()) {
            if (!Modifier.isPrivate(f.getModifiers())) {
                must(Modifier.isPublic(f.getModifiers()) && Modifier.isStatic(f.getModifiers())
                    && Modifier.isFinal(f.getModifiers()) && f.getType() == int.class, "a constant: " + f);
                constants.add(f.getName() + f.getInt(null));
            }
        }
        must(constants.equals(new TreeSet<>(Set.of("BAD-1", "NO-2", "FULL-3", "NONE-4"))), "the constants: " + constants);
        Class<?>[] inside = c.getDeclaredClasses();
        must(inside.length <= 11, "at most twelve classes: " + (inside.length + 1));
        for (Class<?> in : inside) {
            must(Modifier.isStatic(in.getModifiers()), "static: " + in);
            looksLike(in, names);
        }
        looksLike(c, Set.of());
    }

    private static void looksLike(Class<?> c, Set<String> taken) {
        int fields = 0;
        for (Field f : c.getDeclaredFields()) {
            must(!Modifier.isStatic(f.getModifiers()) || Modifier.isFinal(f.getModifiers()), "no static state: " + f);
            fields += Modifier.isStatic(f.getModifiers()) ? 0 : 1;
        }
        must(fields <= 20, "at most twenty fields: " + c);
        for (Method m : c.getDeclaredMethods()) {
            must(m.getParameterCount() <= 7, "at most seven parameters: " + m);
            must(!taken.contains(m.getName()), "a name of the face again: " + m);
        }
    }

    private static String withoutRemarks(String source) {
        return source.replaceAll("(?s)/\\*.*?\\*/", "").replaceAll("//[^\n]*", "").replaceAll("'.'", "0");
    }

    /** Rule 12: while an object is made nothing of it is handed to another, so what is made inside it takes nothing. */
    private static void makersTakeNothing(String source) {
        Matcher made = Pattern.compile("\\bnew (\\w+)\\(([^)]*)\\)").matcher(withoutRemarks(source));
        while (made.find()) {
            must(made.group(2).isBlank(), "nothing is handed out while an object is made: " + made.group());
        }
    }

    private static void words(String source) {
        String plain = withoutRemarks(source);
        for (String word : List.of("throw", "throws", "try", "catch", "synchronized", "assert", "import", "package", "->", "::",
            "System.out", "Exact", "Random", "Thread", "nanoTime", "currentTimeMillis", "float", "double", "char", "Object")) {
            must(!Pattern.compile("(?<![A-Za-z])" + Pattern.quote(word) + "(?![A-Za-z])").matcher(plain).find(), "without " + word);
        }
        Matcher library = Pattern.compile("\\b(Integer|Long|Math|System|String|Arrays)\\.(\\w+)").matcher(plain);
        while (library.find()) {
            must(Set.of("Integer.bitCount", "Math.max", "Math.min", "System.arraycopy")
                .contains(library.group()), "the library: " + library.group());
        }
        List<String> lines = new ArrayList<>(List.of(source.split("\n")));
        int begun = -1;
        for (int i = 0; i < lines.size(); i++) {
            String line = lines.get(i);
            must(line.length() <= 130, "a short line " + (i + 1));
            if (line.matches(" {4}(?: {4})?[\\w\\[\\]<> ]+\\([^;]*\\) \\{")) {
                begun = i;
            }
            if (begun >= 0 && (line.equals("    }") || line.equals("        }"))) {
                must(i - begun <= 60, "a short method at line " + (begun + 1));
                begun = -1;
            }
        }
    }

    /** All rows are made with the object: the calls of a run share one room that is never emptied. */
    private static void calls() {
        String text = "o0,5,3,30;o1,0,0,0;o2,9,9,9;o3,4,5,0;o4,4,5,9;n0,2,1,2,3;a1,4,5;n2,1,0,1;a3,2;h4,6;";
        long made = Long.MAX_VALUE;
        for (int turn = 0; turn < 20; turn++) {
            PaperRings x = new PaperRings();
            long before = allocated();
            for (int i = 0; i < text.length(); i++) {
                x.write(1, text.charAt(i));
            }
            everything(x);
            // The machine itself may make something in one turn, but not in each.
            made = Math.min(made, allocated() - before);
        }
        must(made == 0, "calls make no objects: " + made + " bytes");
    }

    private static void everything(PaperRings x) {
        x.fault();
        x.lay();
        x.person(0, 32, 9);
        x.person(1, 64, 9);
        for (int person = 0; person < 4; person++) {
            x.reach(person);
            x.back(person);
            x.ring(person, 0);
            for (int paper = 0; paper < 5; paper++) {
                x.office(paper, 4);
                x.may(person, 3, paper);
                x.lack(person, 3, paper);
                x.round(person, paper);
                x.opened(person, paper, 2);
                x.cheapest(person, paper, 2);
                x.soonest(person, paper);
                x.plan(person, paper);
                x.mend(15, paper, 0);
            }
            x.judge(person, 0);
            x.queue(15, person);
        }
        x.keep();
        x.restore();
        x.noPlan(0);
        x.count(3);
        x.wipe();
    }

    private static final com.sun.management.ThreadMXBean METER =
        (com.sun.management.ThreadMXBean) ManagementFactory.getThreadMXBean();

    private static long allocated() {
        return METER.getCurrentThreadAllocatedBytes();
    }

    public static void main(String[] args) throws Exception {
        Path source = Path.of(args.length > 0 ? args[0] : "src/main/java/PaperRings.java");
        face();
        words(Files.readString(source));
        makersTakeNothing(Files.readString(source));
        calls();
        System.out.println(wrong == 0 ? "the face and the language are as told" : wrong + " rules are not kept");
        if (wrong != 0) {
            System.exit(1);
        }
    }
}
