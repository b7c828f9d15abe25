import java.io.IOException;
import java.lang.reflect.Constructor;
import java.lang.reflect.Field;
import java.lang.reflect.Method;
import java.lang.reflect.Modifier;
import java.nio.file.Files;
import java.nio.file.Path;
import java.util.Set;
import java.util.TreeSet;
import java.util.regex.Matcher;
import java.util.regex.Pattern;

/** The document's face, and what can be seen of LANGUAGE.md's rules in the source and in the class. */
public final class LanguageTest {
    private static final Due DUE = new Due("LanguageTest");
    /** It lies beside the project, where the project is worked on; the tests must run without it, too. */
    private static final Path DOC = Path.of("../shared/DOC.md");
    private static final String FACE = """
            OneNet()
            int cord(int a, int b, int is)
            int corded(int a, int b)
            int tie(int k, int is)
            int count(int what)
            int feed(int n, int a, int b, int c, int d, int e)
            int text()
            int force(int t)
            int asks(int part, int toldMore, int far, int weight, int knotWho)
            int sleeper(int kind, int toldMore, int knot)
            int lie(int s, int knot)
            int told(int s, int what)
            int depth(int k)
            int pull(int a, int b)
            int hang(int what)
            int roll(int n)
            int rolled(int s, int n)
            int felt(int s, int by)
            int wakes(int by, int what)
            int night()
            int woken(int s)
            int place(int s, int what)
            int swap(int what)
            int rest()
            int order(int what)
            int mend(int what)
            int rim(int what)
            int turned(int woke, int what)
            int laws(int by, int woke)
            int judge(int s)
            int where(int s, int one)
            int film(int s)
            int drawn(int seed, int what)
            long odds(int seed, int seeds, int part)
            int image()
            int back()
            int sheet(int s, int sort, int n)
            int cell(int s, int i, int v)
            int copy(int s, int i, int other, int j, int n)
            int sleepersBy(int s, int sort, int at, int n)
            int taken(int i, int kind)
            """;

    public static void main(String[] args) throws IOException {
        face();
        members();
        source(Files.readString(Path.of("src/main/java/OneNet.java")));
        room();
        DUE.end();
    }

    private static void same(String what, Set<String> got, Set<String> want) {
        boolean alike = got.equals(want);
        DUE.isTrue(what + (alike ? "" : ": " + got + " for " + want), alike);
    }

    private static void face() throws IOException {
        Set<String> due = new TreeSet<>();
        for (String head : FACE.split("\n")) {
            due.add(withTypesAlone(head));
        }
        if (Files.exists(DOC)) {
            same("the document's face", headsOf(Files.readString(DOC)), new TreeSet<>(Set.of(FACE.split("\n"))));
        }
        Set<String> has = new TreeSet<>();
        for (Constructor<?> made : OneNet.class.getDeclaredConstructors()) {
            has.add("OneNet(" + types(made.getParameterTypes()) + ")");
        }
        for (Method method : OneNet.class.getDeclaredMethods()) {
            if (Modifier.isPublic(method.getModifiers())) {
                has.add(method.getReturnType() + " " + method.getName() + "(" + types(method.getParameterTypes()) + ")");
            }
        }
        DUE.is("the constructor and the calls", due.size(), 41);
        same("the face", has, due);
        DUE.is("NONE", OneNet.NONE, -1);
        DUE.is("BAD", OneNet.BAD, -2);
        DUE.is("STATE", OneNet.STATE, -3);
        DUE.is("FULL", OneNet.FULL, -4);
        DUE.is("NO", OneNet.NO, -(1L << 62));
    }

    private static String withTypesAlone(String head) {
        return head.replaceAll("(\\w+) \\w+(?=[,)])", "$1");
    }

    private static Set<String> headsOf(String document) {
        Set<String> heads = new TreeSet<>();
        Matcher next = Pattern.compile("^    public (?!static)(.*\\));$", Pattern.MULTILINE).matcher(document);
        while (next.find()) {
            heads.add(next.group(1));
        }
        return heads;
    }

    private static String types(Class<?>[] all) {
        StringBuilder joined = new StringBuilder();
        for (Class<?> one : all) {
            joined.append(joined.length() == 0 ? "" : ", ").append(one);
        }
        return joined.toString();
    }

    private static void members() {
        Set<String> open = new TreeSet<>();
        for (Field field : OneNet.class.getDeclaredFields()) {
            if (!Modifier.isPrivate(field.getModifiers())) {
                open.add(field.getName());
            }
        }
        same("open fields", open, Set.of("NONE", "BAD", "STATE", "FULL", "NO"));
        Set<String> publicNames = new TreeSet<>();
        for (Method method : OneNet.class.getMethods()) {
            publicNames.add(method.getName());
        }
        DUE.isTrue("final", Modifier.isFinal(OneNet.class.getModifiers()));
        DUE.isTrue("at most twelve classes", OneNet.class.getDeclaredClasses().length < 12);
        checkClass(OneNet.class, publicNames);
        for (Class<?> inside : OneNet.class.getDeclaredClasses()) {
            DUE.isTrue(inside + " is private and static",
                    Modifier.isPrivate(inside.getModifiers()) && Modifier.isStatic(inside.getModifiers()));
            checkClass(inside, publicNames);
        }
    }

    private static void checkClass(Class<?> one, Set<String> publicNames) {
        int fields = 0;
        for (Field field : one.getDeclaredFields()) {
            boolean isStatic = Modifier.isStatic(field.getModifiers());
            DUE.isTrue(field + " is final, if static", !isStatic || Modifier.isFinal(field.getModifiers()));
            fields += isStatic ? 0 : 1;
        }
        DUE.isTrue(one + ": some twenty fields", fields <= 20);
        for (Method method : one.getDeclaredMethods()) {
            boolean isFace = one == OneNet.class && Modifier.isPublic(method.getModifiers());
            DUE.isTrue(method + ": not the name of a public one", isFace || !publicNames.contains(method.getName()));
            DUE.isTrue(method + ": open in the face alone",
                    isFace || one != OneNet.class || Modifier.isPrivate(method.getModifiers()));
            DUE.isTrue(method + ": at most seven parameters", method.getParameterCount() <= 7);
        }
    }

    private static void source(String text) {
        String code = text.replaceAll("/\\*(?s:.*?)\\*/", "").replaceAll("//[^\n]*", "");
        String[] banned = {"\\bthrow\\b", "\\btry\\b", "\\bcatch\\b", "\\bsynchronized\\b", "\\bassert\\b", "->", "::",
            "\\bpackage\\b", "\\bSystem\\.(?!arraycopy)", "Exact\\(", "\\bdouble\\b", "\\bfloat\\b", "\\bObject\\b",
            "\\bnull\\b", "[^\\x00-\\x7f]", "import (?!java\\.util\\.Arrays;)"};
        for (String pattern : banned) {
            DUE.isTrue("no " + pattern, !Pattern.compile(pattern).matcher(code).find());
        }
        int longest = 0;
        int opened = 0;
        String[] lines = text.split("\n");
        for (int i = 0; i < lines.length; i++) {
            if (lines[i].matches("^(    |        )\\w.*\\) \\{$")) {
                opened = i;
            } else if (lines[i].matches("^(    |        )\\}$") && opened > 0) {
                longest = Math.max(longest, i - opened + 1);
                opened = 0;
            }
        }
        DUE.isTrue("methods of at most sixty lines: " + longest, longest > 5 && longest <= 60);
    }

    /** What is asked makes no new objects; what a whole object's calls make is little. */
    private static void room() {
        com.sun.management.ThreadMXBean bean =
                (com.sun.management.ThreadMXBean) java.lang.management.ManagementFactory.getThreadMXBean();
        long spent = 0;
        for (int time = 0; time < 2; time++) {
            OneNet x = new OneNet();
            for (int s = 0; s < 6; s++) {
                x.sleeper(s, 309, 6 + s);
            }
            x.film(0);
            long before = bean.getCurrentThreadAllocatedBytes();
            for (int i = 0; i < 512; i++) {
                x.place(5, 0);
                x.swap(0);
                x.rest();
                x.order(0);
                x.mend(0);
                x.rim(0);
                x.turned(0, 0);
                x.laws(0, 0);
                x.where(0, 0);
                x.odds(0, 30, 0);
                x.rolled(0, 20);
                x.hang(2);
                x.film(1);
                x.image();
                x.back();
                x.feed(1, 'x', 0, 0, 0, 0);
                x.text();
                x.sheet(3, 2, 40);
                x.sleepersBy(3, 2, 0, 6);
            }
            spent = bean.getCurrentThreadAllocatedBytes() - before;
        }
        DUE.isTrue("512 times all dear calls make next to nothing: " + spent + " bytes", spent < 20000);
    }
}
