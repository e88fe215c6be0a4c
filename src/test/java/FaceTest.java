import java.io.IOException;
import java.lang.reflect.Constructor;
import java.lang.reflect.Field;
import java.lang.reflect.Method;
import java.lang.reflect.Modifier;
import java.nio.file.Files;
import java.nio.file.Path;
import java.util.ArrayList;
import java.util.List;
import java.util.TreeSet;
import java.util.regex.Matcher;
import java.util.regex.Pattern;

/** The face of the document, and those rules of LANGUAGE.md that a program can see. */
public final class FaceTest {
    private static final String[] FACE = {
        "int place()", "int errands(int,int)", "int way(int,int,int,int)", "int wayOf(int,int,int)", "int shut(int,int,boolean)",
        "int far(int,int)", "int by(int,int,int)", "int loops()", "int longer(int,int)", "int round(int,int)", "int over(int,int)",
        "int sum(int)", "int roundOf(int,int)", "int as(int,int)", "int live()", "int trip(int)", "int meet(int,int,int)", "int fit()",
        "int height(int)", "int paper(int,int)", "int worst()", "int walk(int,int,int,int)", "int on(int,int)", "int learn()",
        "int lies()", "int known(int)", "int ask()", "int saves(int,int)", "int mend()", "int goes(int,int)", "int hollow()",
        "int feed(int,int)", "int wipe()", "int land()", "int sheet(int,int,int)", "long write(int,int,long)",
        "int copy(int,int,int,int,int)", "int lays(int,int)", "int read(int)", "int image()", "int undo()", "int tear()",
        "int count(int)", "int status(int)",
    };
    private static final String SOURCE = "src/main/java/LongerBack.java";
    private static final int MOST_LINES = 60;

    private static int wrong = 0;

    private static void due(boolean holds, String what) {
        if (!holds) {
            wrong++;
            System.out.println("not as due: " + what);
        }
    }

    private static String told(Method m) {
        List<String> types = new ArrayList<>();
        for (Class<?> type : m.getParameterTypes()) {
            types.add(type.getName());
        }
        return m.getReturnType().getName() + " " + m.getName() + "(" + String.join(",", types) + ")";
    }

    private static void face() {
        TreeSet<String> is = new TreeSet<>();
        for (Method m : LongerBack.class.getDeclaredMethods()) {
            if (!Modifier.isPrivate(m.getModifiers())) {
                is.add(told(m));
                due(Modifier.isPublic(m.getModifiers()) && !Modifier.isStatic(m.getModifiers()), m + " is public");
            }
        }
        due(is.equals(new TreeSet<>(List.of(FACE))), "the face, which is " + is);
        Constructor<?>[] makers = LongerBack.class.getDeclaredConstructors();
        due(makers.length == 1 && makers[0].getParameterCount() == 0 && Modifier.isPublic(makers[0].getModifiers()), "one constructor");
        due(Modifier.isFinal(LongerBack.class.getModifiers()), "the class is final");
        for (Field f : LongerBack.class.getDeclaredFields()) {
            due(Modifier.isPrivate(f.getModifiers()), f + " is private");
        }
    }

    private static void inside() {
        TreeSet<String> names = new TreeSet<>();
        for (String line : FACE) {
            names.add(line.substring(line.indexOf(' ') + 1, line.indexOf('(')));
        }
        Class<?>[] all = LongerBack.class.getDeclaredClasses();
        due(all.length < 12, "at most some twelve classes");
        for (Class<?> c : all) {
            due(Modifier.isStatic(c.getModifiers()), c + " is static");
            due(c.getDeclaredClasses().length == 0, c + " has no classes inside");
            for (Method m : c.getDeclaredMethods()) {
                due(!names.contains(m.getName()), m + " bears no name of a public one");
            }
            fields(c);
        }
        fields(LongerBack.class);
        for (Method m : LongerBack.class.getDeclaredMethods()) {
            due(!Modifier.isPrivate(m.getModifiers()) || !names.contains(m.getName()), m + " bears no name of a public one");
            due(m.getParameterCount() <= 7, m + " takes at most seven");
        }
    }

    private static void fields(Class<?> c) {
        int own = 0;
        for (Field f : c.getDeclaredFields()) {
            own += Modifier.isStatic(f.getModifiers()) ? 0 : 1;
            due(!Modifier.isStatic(f.getModifiers()) || Modifier.isFinal(f.getModifiers()), f + " is final");
        }
        due(own <= 20, c + " has at most some twenty fields");
    }

    private static void words(String source) {
        String code = source.replaceAll("(?s)/\\*.*?\\*/", "").replaceAll("//[^\n]*", "");
        Matcher banned = Pattern.compile("\\b(throws?|try|catch|finally|synchronized|assert|import|package|volatile|transient|native"
            + "|Object|Random|Thread|Exact|hashCode|toString|double|float)\\b|->|::|Exact\\(").matcher(code);
        while (banned.find()) {
            due(false, "the word " + banned.group());
        }
        int inside = 0;
        for (String line : code.split("\n")) {
            boolean begins = line.matches(" {4,8}[a-z][^=;]*\\) \\{");
            inside = begins ? 1 : inside > 0 ? inside + 1 : 0;
            due(inside <= MOST_LINES, "a method of " + inside + " lines at " + line);
            inside = line.matches(" {4,8}\\}") ? 0 : inside;
        }
        for (int i = 0; i < source.length(); i++) {
            due(source.charAt(i) < 127, "a sign above 126 at " + i);
        }
    }

    public static void main(String[] args) throws IOException {
        face();
        inside();
        words(Files.readString(Path.of(SOURCE)));
        System.out.println(wrong == 0 ? "the face is as due" : wrong + " things are not as due");
        if (wrong != 0) {
            System.exit(1);
        }
    }
}
