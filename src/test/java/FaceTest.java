import java.lang.reflect.Constructor;
import java.lang.reflect.Field;
import java.lang.reflect.Method;
import java.lang.reflect.Modifier;
import java.nio.charset.StandardCharsets;
import java.nio.file.Files;
import java.nio.file.Path;
import java.util.Set;
import java.util.TreeSet;
import java.util.regex.Matcher;
import java.util.regex.Pattern;

/** Checks the public face, and the rules of LANGUAGE.md that the source's text shows. Runs in the project's root. */
public final class FaceTest {
    private static final String[] FACE = {
        "int append(int) IllegalArgumentException IllegalStateException",
        "int clearText()",
        "int errorPosition()",
        "int load() IllegalStateException",
        "int about(int) IllegalArgumentException",
        "int room(int,int) IndexOutOfBoundsException IllegalArgumentException",
        "int owes(int) IndexOutOfBoundsException",
        "int booking(int,int) IndexOutOfBoundsException IllegalArgumentException",
        "int addRoom(int,int,int,int) IllegalArgumentException IllegalStateException",
        "int addGroup() IllegalStateException",
        "int book(int,int,int,int,int) IndexOutOfBoundsException IllegalArgumentException IllegalStateException",
        "int cancel(int) IndexOutOfBoundsException IllegalStateException",
        "int prove(int,boolean) IndexOutOfBoundsException IllegalStateException",
        "int outside(int) IllegalArgumentException",
        "int pay(int) IndexOutOfBoundsException",
        "int pass(int) IllegalArgumentException IllegalStateException",
        "int undo() IllegalStateException",
        "int later(int,int) IndexOutOfBoundsException IllegalArgumentException",
        "int begins(int) IndexOutOfBoundsException",
        "int cost(int,int,int,int,int) IndexOutOfBoundsException IllegalArgumentException",
        "int willOwe(int) IndexOutOfBoundsException",
        "int coldest()",
        "int runScript(int,long) IllegalArgumentException",
        "int simulate(long,int) IllegalArgumentException",
        "int save(int) IndexOutOfBoundsException",
        "int restore(int) IndexOutOfBoundsException IllegalStateException",
    };
    private static final String[] RULED_OUT = {
        "->", "::", "\\bimport\\b", "\\bpackage\\b", "\\bsynchronized\\b", "\\bassert\\b", "\\bfinally\\b", "\\btry\\b",
        "\\bcatch\\b", "Exact\\b", "\\bprotected\\b", "\\bnative\\b", "\\bvolatile\\b", "\\btransient\\b", "\\bvar\\b",
        "\\bequals\\b", "\\bhashCode\\b", "\\btoString\\b", "\\bObject\\b", "\\bfloat\\b", "\\bdouble\\b", "@", "\" *\\+",
        "\\+ *\"", "while *\\(", "System\\.(?!arraycopy\\b)", "Math\\.(?!min\\b|max\\b)",
        "new (?!IllegalArgumentException\\(|IllegalStateException\\(|IndexOutOfBoundsException\\(|[A-Z]\\w*\\(\\)|[A-Z]\\w*\\[|int\\[|boolean\\[)",
    };
    private static int wrong = 0;

    private static void complain(String what) {
        wrong++;
        System.out.println(what);
    }

    private static String written(Method m) {
        StringBuilder s = new StringBuilder(m.getReturnType().getName() + " " + m.getName() + "(");
        for (Class<?> p : m.getParameterTypes()) {
            s.append(s.charAt(s.length() - 1) == '(' ? "" : ",").append(p.getName());
        }
        s.append(")");
        for (Class<?> e : m.getExceptionTypes()) {
            s.append(" ").append(e.getSimpleName());
        }
        return s.toString();
    }

    private static void checkFace() {
        Class<?> c = HallHeating.class;
        Set<String> due = new TreeSet<>(Set.of(FACE));
        Set<String> names = new TreeSet<>();
        if (c.getModifiers() != (Modifier.PUBLIC | Modifier.FINAL)) complain("the class is not public and final");
        for (Method m : c.getDeclaredMethods()) {
            if (Modifier.isPrivate(m.getModifiers())) continue;
            names.add(m.getName());
            if (m.getModifiers() != Modifier.PUBLIC) complain("not just public: " + m);
            if (!due.remove(written(m))) complain("not of the face: " + m);
        }
        for (String missing : due) complain("missing: " + missing);
        Constructor<?>[] constructors = c.getDeclaredConstructors();
        if (constructors.length != 1 || constructors[0].getParameterCount() != 0
            || constructors[0].getModifiers() != Modifier.PUBLIC) complain("the constructor is not that of the face");
        checkFields(c);
        for (Class<?> inside : c.getDeclaredClasses()) {
            if (!Modifier.isStatic(inside.getModifiers()) || Modifier.isPublic(inside.getModifiers())
                || Modifier.isProtected(inside.getModifiers())) complain("not a class for the inside: " + inside);
            checkFields(inside);
            for (Method m : inside.getDeclaredMethods()) if (names.contains(m.getName())) complain("named as of the face: " + m);
        }
        for (Method m : c.getDeclaredMethods()) {
            if (Modifier.isPrivate(m.getModifiers()) && names.contains(m.getName())) complain("named as of the face: " + m);
        }
        if (c.getDeclaredClasses().length > 11) complain("too many classes");
    }

    private static void checkFields(Class<?> c) {
        int fields = 0;
        for (Field f : c.getDeclaredFields()) {
            int m = f.getModifiers();
            if (Modifier.isStatic(m) && !Modifier.isFinal(m)) complain("static and not final: " + f);
            if (!Modifier.isStatic(m)) fields++;
            boolean none = c == HallHeating.class && f.getName().equals("NONE");
            if (none && m != (Modifier.PUBLIC | Modifier.STATIC | Modifier.FINAL)) complain("NONE is not that of the face");
            if (c == HallHeating.class && !none && !Modifier.isPrivate(m)) complain("not of the face: " + f);
        }
        if (fields > 20) complain("too many fields: " + c);
    }

    private static void checkSource() throws Exception {
        String source = Files.readString(Path.of("src/main/java/HallHeating.java"), StandardCharsets.UTF_8);
        for (int i = 0; i < source.length(); i++) {
            if (source.charAt(i) > 126) complain("a sign above 126 at " + i);
        }
        String code = source.replaceAll("(?s)/\\*.*?\\*/", "").replaceAll("//[^\n]*", "");
        for (String pattern : RULED_OUT) {
            Matcher m = Pattern.compile(pattern).matcher(code);
            while (m.find()) complain("ruled out: " + pattern + " in: " + code.substring(m.start(), Math.min(code.length(), m.end() + 30)));
        }
        int length = 0;
        for (String line : code.split("\n")) {
            length = line.matches("    (    )?\\S.*\\{") ? 0 : length + 1;
            if (line.matches("    (    )?\\}") && length > 60) complain("a method of " + length + " lines");
            if (line.matches("    (    )?\\}")) length = 0;
        }
    }

    public static void main(String[] args) throws Exception {
        checkFace();
        checkSource();
        System.out.println("the face and the source: " + wrong + " wrong");
        if (wrong != 0) System.exit(1);
    }
}
