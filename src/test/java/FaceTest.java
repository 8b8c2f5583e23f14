import java.lang.reflect.Constructor;
import java.lang.reflect.Field;
import java.lang.reflect.Member;
import java.lang.reflect.Method;
import java.lang.reflect.Modifier;
import java.nio.file.Files;
import java.nio.file.Path;
import java.util.Arrays;
import java.util.HashSet;
import java.util.Set;
import java.util.TreeSet;
import java.util.regex.Matcher;
import java.util.regex.Pattern;

/** The public face, and the rules of LANGUAGE.md that can be seen from the class and its text. */
public final class FaceTest {
    private static final Due due = new Due("FaceTest");
    private static final String[] FACE = {
        "int ball(int)", "int drag(int)", "int wind(int,int)", "int of(int,int)", "int change(int,int,int)",
        "int lend(int)", "int felt(int)", "int go(int)", "int now(int)", "int ahead(int,int,int)",
        "int where(int)", "int when(int)", "int comes(int)", "int off()", "int unwind(int)", "int had(int)",
        "int drawTo(int,int,int)", "int longFor(int,int,int)", "int kindFor(int,int)", "int dragFor(int,int)",
        "int loosen(int,int)", "int fits(int,int)", "int kinds(int,int)", "int parcels(int)",
        "long odds(int,int)", "int seed(int)", "int feed(int,int)", "int wipe()", "int text()",
        "int hold(int,int)", "int as(int,int)", "int sheet(int,int,int)", "int write(int,int,int)",
        "int copy(int,int,int,int,int)", "int load(int)", "int judge(int)", "int image()", "int undo()",
        "int tear()", "int count(int)", "int status(int)"};

    public static void main(String[] args) throws Exception {
        face();
        members();
        names();
        source();
        due.end();
    }

    private static void face() {
        Set<String> got = new TreeSet<>();
        for (Method m : ParcelBall.class.getDeclaredMethods()) {
            if (Modifier.isPublic(m.getModifiers())) {
                String parameters = Arrays.toString(m.getParameterTypes()).replaceAll("[\\[\\] ]", "");
                got.add(m.getReturnType() + " " + m.getName() + "(" + parameters + ")");
                due.holds(m.getName() + " is of objects", !Modifier.isStatic(m.getModifiers()));
            }
        }
        Set<String> want = new TreeSet<>(Arrays.asList(FACE));
        due.is("methods of the face", want.size(), 41);
        for (String method : want) {
            due.holds("there is " + method, got.contains(method));
        }
        for (String method : got) {
            due.holds("the document has " + method, want.contains(method));
        }
        int modifiers = ParcelBall.class.getModifiers();
        due.holds("public and final", Modifier.isPublic(modifiers) && Modifier.isFinal(modifiers));
        Constructor<?>[] makers = ParcelBall.class.getDeclaredConstructors();
        due.is("constructors", makers.length, 1);
        due.is("its parameters", makers[0].getParameterCount(), 0);
        due.holds("it is public", Modifier.isPublic(makers[0].getModifiers()));
    }

    private static boolean isPrivate(Member m) {
        return Modifier.isPrivate(m.getModifiers()) || m.isSynthetic();
    }

    private static void members() {
        for (Method m : ParcelBall.class.getDeclaredMethods()) {
            due.holds(m + " is public or private", Modifier.isPublic(m.getModifiers()) || isPrivate(m));
        }
        for (Field f : ParcelBall.class.getDeclaredFields()) {
            due.holds(f + " is private", isPrivate(f));
        }
        Class<?>[] inside = ParcelBall.class.getDeclaredClasses();
        due.holds("at most twelve classes", inside.length < 12);
        for (Class<?> c : inside) {
            due.holds(c + " is static", Modifier.isStatic(c.getModifiers()));
            due.holds(c + " is not public", !Modifier.isPublic(c.getModifiers()));
            fields(c);
        }
        fields(ParcelBall.class);
    }

    private static void fields(Class<?> c) {
        int own = 0;
        for (Field f : c.getDeclaredFields()) {
            boolean isStatic = Modifier.isStatic(f.getModifiers());
            own += isStatic ? 0 : 1;
            due.holds(f + " is final if static", !isStatic || Modifier.isFinal(f.getModifiers()));
        }
        due.holds(c + " has at most twenty fields", own <= 20);
        for (Method m : c.getDeclaredMethods()) {
            due.holds(m + " has at most seven parameters", m.getParameterCount() <= 7);
        }
    }

    private static void names() {
        Set<String> face = new HashSet<>();
        for (String method : FACE) {
            face.add(method.replaceAll("^\\w+ (\\w+).*", "$1"));
        }
        for (Method m : ParcelBall.class.getDeclaredMethods()) {
            due.holds(m + " has a name of its own", Modifier.isPublic(m.getModifiers()) || !face.contains(m.getName()));
        }
        for (Class<?> c : ParcelBall.class.getDeclaredClasses()) {
            for (Method m : c.getDeclaredMethods()) {
                due.holds(m + " has a name of its own", !face.contains(m.getName()));
            }
        }
    }

    private static void source() throws Exception {
        String text = Files.readString(Path.of("src/main/java/ParcelBall.java"));
        due.holds("signs 1 to 127 alone", text.chars().allMatch(c -> c >= 1 && c <= 127));
        String code = text.replaceAll("(?s)/\\*.*?\\*/", "").replaceAll("//[^\n]*", "").replaceAll("\"[^\"\n]*\"", "\"\"");
        String[] ruledOut = {"\\bthrow", "\\btry\\b", "\\bcatch\\b", "\\bsynchronized\\b", "\\bassert\\b", "->", "::",
            "\\bimport\\b", "\\bpackage\\b", "Exact\\b", "\\bstatic\\s*\\{", "\\bprotected\\b", "\\.equals\\(",
            "\\bhashCode\\b", "\\btoString\\b", "\\bdouble\\b", "\\bfloat\\b", "\\bObject\\b", "\\bfor\\s*\\(\\s*;",
            "while\\s*\\(\\s*true"};
        for (String rule : ruledOut) {
            due.holds("no " + rule, !Pattern.compile(rule).matcher(code).find());
        }
        Matcher library = Pattern.compile("\\b(Math|Integer|Long|System|Arrays)\\.(\\w+)").matcher(code);
        Set<String> listed = Set.of("Math.abs", "Math.min", "Math.max", "Integer.bitCount", "System.arraycopy");
        while (library.find()) {
            due.holds(library.group() + " is listed", listed.contains(library.group()));
        }
        methodsAreShort(code);
    }

    private static void methodsAreShort(String code) {
        Matcher m = Pattern.compile("(?m)^( {4}| {8})[^ \n}].*\\) \\{\n").matcher(code);
        int methods = 0;
        while (m.find()) {
            int end = code.indexOf("\n" + m.group(1) + "}", m.start());
            long lines = code.substring(m.start(), end).chars().filter(c -> c == '\n').count();
            due.holds(m.group().trim() + " is short: " + lines, lines <= 60);
            methods++;
        }
        due.holds("methods were seen", methods > 60);
    }
}
