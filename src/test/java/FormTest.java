import java.lang.reflect.Constructor;
import java.lang.reflect.Field;
import java.lang.reflect.Method;
import java.lang.reflect.Modifier;
import java.nio.charset.StandardCharsets;
import java.nio.file.Files;
import java.nio.file.Path;
import java.util.ArrayList;
import java.util.Arrays;
import java.util.List;
import java.util.Set;
import java.util.TreeSet;
import java.util.regex.Matcher;
import java.util.regex.Pattern;

/** The form of the program: the document's face, and those rules of LANGUAGE.md that can be looked up. */
public final class FormTest {
    private static final String FACE = "int type(int,int)|int wipe(int)|int undo(int)|int fault(int)|int told(int,int)|"
        + "int order(int,int)|int event(int,int,int)|int back()|int read(int)|int column(int,int,int)|"
        + "int block(int,int,int)|int ice(int,int)|int got(int,int)|int sum(int)|int bare(int)|int last()|int tall()|"
        + "int drain(int)|int cover(int)|int swap(int)|int later(int,int)|int spare(int)|int seen(int,int,int)|"
        + "int forget()|int never()|int size(int,int)|int ask(int,int)|long chance(int,int,int)|"
        + "int summers(int,int,int)|int sheet(int,int,int)|int lose(int)|int lay(int,int,int,int)|"
        + "int get(int,int,int)|int copy(int,int,int,int,int)|int write(int,int)|int count(int)|long digest()";
    private static final String FORBIDDEN = "\\b(throw|throws|try|catch|finally|synchronized|assert|volatile|transient|"
        + "native|strictfp|protected|package|Object|Exception|System\\.(?!arraycopy)\\w+|Math\\.\\w+Exact|MIN_VALUE|"
        + "MAX_VALUE|hashCode|toString|Thread|Random|double|float)\\b|->|::|@";
    private static int wrong = 0;

    private static void must(boolean holds, String what) {
        if (!holds) {
            wrong++;
            System.out.println(what);
        }
    }

    public static void main(String[] args) throws Exception {
        theFace();
        for (Class<?> inside : IceHouse.class.getDeclaredClasses()) aClassInside(inside);
        must(IceHouse.class.getDeclaredClasses().length < 12, "rule 11: too many classes");
        aClass(IceHouse.class);
        theSource(Files.readString(Path.of("src/main/java/IceHouse.java"), StandardCharsets.UTF_8));
        System.out.println(wrong == 0 ? "the form is as it should be" : wrong + " faults of form");
        if (wrong != 0) System.exit(1);
    }

    private static String signature(Method m) {
        List<String> types = new ArrayList<>();
        for (Class<?> type : m.getParameterTypes()) types.add(type.getName());
        return m.getReturnType().getName() + " " + m.getName() + "(" + String.join(",", types) + ")";
    }

    private static void theFace() throws Exception {
        must(IceHouse.class.getModifiers() == (Modifier.PUBLIC | Modifier.FINAL), "rule 1: the class is public and final");
        Set<String> due = new TreeSet<>(Arrays.asList(FACE.split("\\|"))), found = new TreeSet<>(), names = new TreeSet<>();
        for (Method m : IceHouse.class.getDeclaredMethods())
            if (Modifier.isPublic(m.getModifiers())) {
                found.add(signature(m));
                names.add(m.getName());
            } else must(Modifier.isPrivate(m.getModifiers()), "rule 1: " + m);
        must(found.equals(due), "rule 1: the face is " + found);
        for (Method m : IceHouse.class.getDeclaredMethods())
            must(Modifier.isPublic(m.getModifiers()) || !names.contains(m.getName()), "rule 1: the name of " + m);
        for (Class<?> inside : IceHouse.class.getDeclaredClasses())
            for (Method m : inside.getDeclaredMethods()) must(!names.contains(m.getName()), "rule 1: the name of " + m);
        Constructor<?>[] made = IceHouse.class.getDeclaredConstructors();
        must(made.length == 1 && made[0].getParameterCount() == 0 && Modifier.isPublic(made[0].getModifiers()), "rule 1: constructor");
        Set<String> constants = new TreeSet<>();
        for (Field f : IceHouse.class.getDeclaredFields())
            if (!Modifier.isPrivate(f.getModifiers()))
                constants.add(Modifier.toString(f.getModifiers()) + " " + f.getName()
                    + (Modifier.isStatic(f.getModifiers()) ? " " + f.get(null) : ""));
        must(constants.equals(new TreeSet<>(List.of("public static final NONE -1", "public static final BAD -2",
            "public static final NOT -3", "public static final FULL -4"))), "rule 1: constants " + constants);
    }

    private static void aClassInside(Class<?> inside) {
        int m = inside.getModifiers();
        must(Modifier.isStatic(m) && !Modifier.isPublic(m) && !Modifier.isProtected(m), "rule 1: " + inside);
        aClass(inside);
    }

    private static void aClass(Class<?> c) {
        int fields = 0;
        for (Field f : c.getDeclaredFields()) {
            if (Modifier.isStatic(f.getModifiers())) must(Modifier.isFinal(f.getModifiers()), "rule 5: " + f);
            else fields++;
        }
        must(fields <= 20, "rule 11: fields of " + c);
        for (Method m : c.getDeclaredMethods()) must(m.getParameterCount() <= 7, "rule 11: " + m);
    }

    private static void theSource(String source) {
        String bare = source.replaceAll("(?s)/\\*.*?\\*/", " ").replaceAll("//[^\n]*", "");
        Matcher forbidden = Pattern.compile(FORBIDDEN).matcher(bare);
        while (forbidden.find()) must(false, "LANGUAGE.md leaves no " + forbidden.group());
        Matcher imports = Pattern.compile("import ([^;]*);").matcher(bare);
        while (imports.find()) must(imports.group(1).equals("java.util.Arrays"), "rule 4: " + imports.group());
        must(!Pattern.compile("\\bwhile\\b").matcher(bare).find(), "rule 9: a loop without a counter");
        String owner = "";
        int began = 0;
        String[] lines = bare.split("\n", -1);
        for (int n = 0; n < lines.length; n++) {
            if (lines[n].matches(" {4,8}[a-zA-Z].*\\) \\{") && !lines[n].matches(" *(if|for|switch|else).*")) {
                owner = lines[n];
                began = n;
            }
            if (lines[n].matches(" {4,8}\\}")) must(n - began <= 60 || owner.isEmpty(), "rule 11: too long: " + owner);
            if (lines[n].matches(" {4,8}\\}") && lines[n].length() == owner.length() - owner.stripLeading().length() + 1) owner = "";
            // rows are made once, with the object, and used again: a run has one room for all its calls
            if (lines[n].contains("new ")) must(owner.isEmpty() || owner.matches(" *(public )?[A-Z]\\w*\\(.*"), "made in a call: " + lines[n]);
        }
    }
}
