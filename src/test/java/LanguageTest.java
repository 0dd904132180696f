import java.lang.reflect.Constructor;
import java.lang.reflect.Field;
import java.lang.reflect.Member;
import java.lang.reflect.Method;
import java.lang.reflect.Modifier;
import java.nio.file.Files;
import java.nio.file.Path;
import java.util.ArrayList;
import java.util.Arrays;
import java.util.List;
import java.util.TreeSet;
import java.util.regex.Matcher;
import java.util.regex.Pattern;

/** The face of the document, and those rules of LANGUAGE.md that a program can look at. */
public final class LanguageTest {
    private static final String[] FACE = {
        "int at(int,int,int)", "int bears()", "int bolt(int,int,int)", "int count(int)",
        "int cut(int,int,int)", "boolean edge(int,int,int)", "int fewest(int,int)",
        "int full(int,int)", "boolean lay(int,int,int,int,int)", "int least()", "int left(int)",
        "boolean lift(int,int)", "int line(int,int)", "boolean mast(int,int)",
        "boolean narrow(int,int,int)", "int old(int)", "int over(int,int)",
        "int panel(int,int,int)", "int patch(int,int,int,int)", "int plan(int)", "long push(int)",
        "boolean reef(int,int)", "boolean row(int,int)", "int sail(int,int,int,int,int)",
        "boolean set(int,boolean)", "boolean stand(int,int,int,int)", "int take(int)",
        "int told(int,int)", "boolean undo()", "boolean wear(int,int,int)",
        "boolean wind(int,int)", "int worn(int,int)",
    };
    private static final String[] FORBIDDEN = {
        "throw", "throws", "try", "catch", "finally", "synchronized", "assert", "package", "::",
        "hashCode", "Object", "Float", "Double", "\\w+Exact", "volatile", "native",
    };
    private static final String CALLS = "\\b(Arrays|Math|StrictMath|System|Integer|Long)\\.(\\w+)";
    private static final String ALLOWED = "Arrays\\.(fill|copyOf|copyOfRange)|System\\.arraycopy"
        + "|Math\\.(min|max|abs|floorDiv|floorMod)"
        + "|(Integer|Long)\\.(compare|min|max|bitCount|MAX_VALUE|MIN_VALUE)";

    private static final Due due = new Due();

    public static void main(String[] args) throws Exception {
        checkFace();
        checkClasses();
        checkWords();
        checkMethodLengths();
        checkRoom();
        due.end();
    }

    private static void checkFace() {
        due.about("rule 1, the face");
        Class<?> face = SailLoft.class;
        due.is("public and final", face.getModifiers(), Modifier.PUBLIC | Modifier.FINAL);
        TreeSet<String> want = new TreeSet<>(Arrays.asList(FACE));
        TreeSet<String> got = new TreeSet<>();
        TreeSet<String> publicNames = new TreeSet<>();
        List<String> otherNames = new ArrayList<>();
        for (Method method : face.getDeclaredMethods()) {
            if (Modifier.isPublic(method.getModifiers())) {
                got.add(signature(method));
                publicNames.add(method.getName());
            } else {
                otherNames.add(method.getName());
                due.yes(method.getName() + " is private", isPrivate(method));
            }
        }
        due.yes("methods " + got, got.equals(want));
        for (String name : otherNames) {
            due.no(name + " bears a public name", publicNames.contains(name));
        }
        Constructor<?>[] constructors = face.getDeclaredConstructors();
        due.is("constructors", constructors.length, 1);
        due.yes("public constructor", Modifier.isPublic(constructors[0].getModifiers()));
        due.is("of no parameters", constructors[0].getParameterCount(), 0);
        for (Field field : face.getDeclaredFields()) {
            due.yes(field + " is private", isPrivate(field) || field.getName().equals("NONE"));
        }
        due.is("NONE", SailLoft.NONE, -1);
    }

    private static boolean isPrivate(Member member) {
        return Modifier.isPrivate(member.getModifiers());
    }

    private static String signature(Method method) {
        StringBuilder text = new StringBuilder();
        text.append(method.getReturnType().getSimpleName()).append(' ').append(method.getName());
        text.append('(');
        for (Class<?> parameter : method.getParameterTypes()) {
            text.append(text.charAt(text.length() - 1) == '(' ? "" : ",");
            text.append(parameter.getSimpleName());
        }
        return text.append(')').toString();
    }

    private static void checkClasses() {
        due.about("rules 2, 5 and 11, the classes");
        List<Class<?>> all = new ArrayList<>(Arrays.asList(SailLoft.class.getDeclaredClasses()));
        for (Class<?> inside : all) {
            due.yes(inside + " is static", Modifier.isStatic(inside.getModifiers()));
            due.no(inside + " is public", Modifier.isPublic(inside.getModifiers()));
        }
        all.add(SailLoft.class);
        due.yes("twelve classes at most", all.size() <= 12);
        for (Class<?> each : all) {
            int fields = 0;
            for (Field field : each.getDeclaredFields()) {
                boolean isStatic = Modifier.isStatic(field.getModifiers());
                due.yes(field + " is final", !isStatic || Modifier.isFinal(field.getModifiers()));
                fields += isStatic ? 0 : 1;
            }
            due.yes(each + " has twenty fields at most", fields <= 20);
            for (Method method : each.getDeclaredMethods()) {
                due.yes(method + " has seven parameters at most", method.getParameterCount() <= 7);
            }
        }
    }

    private static String source() throws Exception {
        String text = Files.readString(Path.of("src/main/java/SailLoft.java"));
        return text.replaceAll("(?s)/\\*.*?\\*/", "").replaceAll("//[^\n]*", "");
    }

    private static void checkWords() throws Exception {
        due.about("rules 3, 4 and 6, the words");
        String text = source();
        for (String word : FORBIDDEN) {
            String form = word.equals("::") ? word : "\\b" + word + "\\b";
            due.no("it says " + word, Pattern.compile(form).matcher(text).find());
        }
        Matcher imports = Pattern.compile("(?m)^import (.*);").matcher(text);
        while (imports.find()) {
            due.yes("imports " + imports.group(1),
                imports.group(1).matches("java\\.util\\.(Arrays|ArrayList|List|Iterator)"));
        }
        Matcher calls = Pattern.compile(CALLS).matcher(text);
        while (calls.find()) {
            due.yes("calls " + calls.group(), calls.group().matches(ALLOWED));
        }
        for (String line : text.split("\n")) {
            due.no("a lambda: " + line, line.contains("->") && !line.matches("\\s*(case|default)\\b.*"));
        }
    }

    private static void checkMethodLengths() throws Exception {
        due.about("rule 11, short methods");
        int start = -1;
        String[] lines = source().split("\n");
        for (int i = 0; i < lines.length; i++) {
            if (lines[i].matches(" {4,8}[a-z][\\w<>\\[\\] ]*\\(.*")) {
                start = i;
            }
            if (lines[i].matches(" {4,8}}") && start >= 0) {
                due.yes(lines[start].trim() + " is short", i - start < 60);
                start = -1;
            }
        }
    }

    // Far below the room's share of one object, so that many objects can live in one run.
    private static void checkRoom() {
        due.about("rule 12, what a run makes");
        com.sun.management.ThreadMXBean bean =
            (com.sun.management.ThreadMXBean) java.lang.management.ManagementFactory.getThreadMXBean();
        busyRun();
        long before = bean.getThreadAllocatedBytes(Thread.currentThread().getId());
        busyRun();
        long made = bean.getThreadAllocatedBytes(Thread.currentThread().getId()) - before;
        System.out.println("a busy run made " + made + " bytes");
        due.yes("a run makes little, " + made, made < 100000);
    }

    private static void busyRun() {
        SailLoft x = new SailLoft();
        for (int b = 0; b < 24; b++) {
            x.bolt(20, 200, 0);
        }
        for (int s = 0; s < 10; s++) {
            x.sail(0, 5, 0, 5, 40);
            x.edge(s, 0, 41);
            x.edge(s, 1, 41);
            x.cut(s, 2, 1);
        }
        for (int round = 0; round < 50; round++) {
            x.row(round % 24, 200);
            x.plan(0);
            x.least();
            x.fewest(0, 0);
            x.undo();
            x.undo();
            x.take(round % 10);
            x.bears();
        }
    }
}
