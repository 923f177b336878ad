import java.lang.reflect.Constructor;
import java.lang.reflect.Field;
import java.lang.reflect.Method;
import java.lang.reflect.Modifier;
import java.nio.file.Files;
import java.nio.file.Path;
import java.util.List;
import java.util.TreeSet;

/** The public face of the class, and what LANGUAGE.md rules out and a search can find. */
public final class FaceTest {
    private static final String[] FACE = {"chain(int,int,int,boolean)", "cell(int)", "clock(int)", "count(int)",
        "covers()", "drive(int)", "gate(int,int,int,int)", "hold(int,int)", "input()", "line(int,int)",
        "link(int,int)", "output(int)", "same(int,int)", "seen(int,int)", "set(int,int)", "shift(int,int)",
        "shownBy(int,int)", "shows(int,int,int)", "source(int,int)", "state(int)", "stick(int,int)", "stitch()",
        "tag(int)", "test(int,int)", "tick(int,int)", "unchain(int)"};
    private static final String[] RULED_OUT = {"throw", "throws", "try", "catch", "synchronized", "assert",
        "Exception", "Object", "Random", "System\\.(?!arraycopy)", "\\w+Exact", "->", "::"};

    private static int wrong = 0;

    private static void check(boolean holds, String what) {
        if (!holds) {
            wrong++;
            System.out.println("not so: " + what);
        }
    }

    public static void main(String[] args) throws Exception {
        methods();
        constants();
        constructors();
        members();
        words();
        System.out.println(wrong == 0 ? "FaceTest: all is as due" : "FaceTest: " + wrong + " wrong");
        if (wrong != 0) {
            System.exit(1);
        }
    }

    private static void methods() {
        TreeSet<String> open = new TreeSet<>();
        TreeSet<String> openNames = new TreeSet<>();
        for (Method m : ScanBench.class.getDeclaredMethods()) {
            if (Modifier.isPrivate(m.getModifiers())) {
                continue;
            }
            StringBuilder text = new StringBuilder(m.getName()).append('(');
            for (Class<?> type : m.getParameterTypes()) {
                text.append(text.charAt(text.length() - 1) == '(' ? "" : ",").append(type.getName());
            }
            open.add(text.append(')').toString());
            openNames.add(m.getName());
            check(m.getReturnType() == int.class, m.getName() + " answers an int");
            check(Modifier.isPublic(m.getModifiers()), m.getName() + " is public");
            check(!Modifier.isStatic(m.getModifiers()), m.getName() + " is not static");
        }
        check(open.equals(new TreeSet<>(List.of(FACE))), "the methods are those of the face: " + open);
        for (Method m : ScanBench.class.getDeclaredMethods()) {
            check(!Modifier.isPrivate(m.getModifiers()) || !openNames.contains(m.getName()),
                "no private method is named as a public one: " + m.getName());
        }
    }

    private static void constants() throws Exception {
        String[] names = {"NONE", "UNKNOWN", "OUTSIDE", "NOT", "FULL"};
        int[] values = {-1, -1001, -1002, -1003, -1004};
        TreeSet<String> open = new TreeSet<>();
        for (Field f : ScanBench.class.getDeclaredFields()) {
            if (!Modifier.isPrivate(f.getModifiers())) {
                open.add(f.getName());
            }
        }
        check(open.equals(new TreeSet<>(List.of(names))), "the constants are those of the face: " + open);
        for (int i = 0; i < names.length; i++) {
            Field f = ScanBench.class.getField(names[i]);
            check(f.getInt(null) == values[i] && Modifier.isFinal(f.getModifiers()), names[i] + " is " + values[i]);
        }
    }

    private static void constructors() {
        Constructor<?>[] made = ScanBench.class.getDeclaredConstructors();
        check(made.length == 1 && made[0].getParameterCount() == 0 && Modifier.isPublic(made[0].getModifiers()),
            "one public constructor");
        check(Modifier.isFinal(ScanBench.class.getModifiers()), "the class is final");
    }

    private static void members() {
        for (Class<?> inside : ScanBench.class.getDeclaredClasses()) {
            check(Modifier.isStatic(inside.getModifiers()), inside.getName() + " is static");
            staticsAreFinal(inside);
        }
        staticsAreFinal(ScanBench.class);
    }

    private static void staticsAreFinal(Class<?> type) {
        for (Field f : type.getDeclaredFields()) {
            check(!Modifier.isStatic(f.getModifiers()) || Modifier.isFinal(f.getModifiers()),
                type.getName() + "." + f.getName() + " is final");
        }
    }

    private static void words() throws Exception {
        String text = Files.readString(Path.of("src/main/java/ScanBench.java"));
        String code = text.replaceAll("(?s)/\\*.*?\\*/", " ").replaceAll("//[^\n]*", " ");
        for (String word : RULED_OUT) {
            boolean isWord = Character.isLetter(word.charAt(0));
            String pattern = isWord ? "(?s).*\\b" + word + "\\b.*" : "(?s).*" + word + ".*";
            check(!code.matches(pattern), "the program does without " + word);
        }
        check(!code.contains("package "), "the program has no package line");
    }
}
