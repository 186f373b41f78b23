import java.io.IOException;
import java.lang.reflect.Constructor;
import java.lang.reflect.Field;
import java.lang.reflect.Method;
import java.lang.reflect.Modifier;
import java.nio.file.Files;
import java.nio.file.Path;
import java.util.Arrays;
import java.util.NoSuchElementException;
import java.util.Set;
import java.util.TreeSet;
import java.util.regex.Matcher;
import java.util.regex.Pattern;

/** The face of the document, and those rules of LANGUAGE.md that can be seen from outside or in the source's signs. */
public final class LanguageTest {
    private static final String FACE = "int sign(int) boolean end(int) int climbers() int rule() int top(int) "
        + "int climber(int,int) int sheet(int,int,int,int) int hours(int) int starts(int) int backs(int) "
        + "int waits(int,int) int slips(int,int) int day() int undo() int later(int) int when(int) int shares(int) "
        + "int order(int) int empty() int high(int,int) int comes(int) int crowd(int) int changes(int) int ways(int) "
        + "int peaks(int,int) int bides(int,int) int rivals(int,int) int goes(int) int ousts(int,int) "
        + "int lawyers(int) int rope() int line() int nearest() int stones(int) int parties() int heard(int,int) "
        + "int forget() int fits() int asks() int saw(int,int) int denies() int laws() int looks() "
        + "int strays(int,int) int bend(int,int) int rests(int) int law() int years(int,int) boolean keep(int) "
        + "boolean again(int) int count(int) long row(int)";
    private static int wrong = 0;

    public static void main(String[] args) throws IOException {
        face();
        inside();
        signs(Files.readString(Path.of("src/main/java/LastDownOwns.java")));
        System.out.println(wrong + " breaches of the language");
        if (wrong != 0) {
            System.exit(1);
        }
    }

    private static void blame(boolean broken, String what) {
        if (broken) {
            wrong++;
            System.out.println(what);
        }
    }

    private static void face() {
        Set<String> due = new TreeSet<>();
        Matcher m = Pattern.compile("(\\w+ \\w+\\([^)]*\\))").matcher(FACE);
        while (m.find()) {
            due.add(m.group(1));
        }
        blame(due.size() != 52, "the test's own list has " + due.size() + " methods");
        Set<String> is = new TreeSet<>();
        for (Method method : LastDownOwns.class.getDeclaredMethods()) {
            if (!Modifier.isPrivate(method.getModifiers())) {
                blame(!Modifier.isPublic(method.getModifiers()), "package-visible: " + method);
                boolean mayThrow = method.getName().equals("climber") || method.getName().equals("row");
                Class<?>[] thrown = method.getExceptionTypes();
                blame(thrown.length != (mayThrow ? 1 : 0) || mayThrow && thrown[0] != NoSuchElementException.class,
                    "what it says it throws: " + method);
                is.add(method.getReturnType() + " " + method.getName()
                    + Arrays.toString(method.getParameterTypes()).replace("[", "(").replace("]", ")").replace(" ", ""));
            }
        }
        blame(!is.equals(due), "the face is " + is);
        for (Field field : LastDownOwns.class.getDeclaredFields()) {
            blame(!Modifier.isPrivate(field.getModifiers()) && !field.getName().equals("NONE"), "a field: " + field);
        }
        Constructor<?>[] all = LastDownOwns.class.getDeclaredConstructors();
        blame(all.length != 1 || !Modifier.isPublic(all[0].getModifiers()), "the constructors");
        blame(!Modifier.isFinal(LastDownOwns.class.getModifiers()), "the class is not final");
        blame(LastDownOwns.NONE != -1, "NONE is " + LastDownOwns.NONE);
    }

    private static void inside() {
        Set<String> names = new TreeSet<>();
        for (Method method : LastDownOwns.class.getDeclaredMethods()) {
            if (Modifier.isPublic(method.getModifiers())) {
                names.add(method.getName());
            }
        }
        Class<?>[] classes = LastDownOwns.class.getDeclaredClasses();
        blame(classes.length > 11, "classes inside: " + classes.length);
        check(LastDownOwns.class, names);
        for (Class<?> c : classes) {
            blame(!Modifier.isStatic(c.getModifiers()) || Modifier.isPublic(c.getModifiers()), "its modifiers: " + c);
            check(c, names);
        }
    }

    private static void check(Class<?> c, Set<String> names) {
        int fields = 0;
        for (Field field : c.getDeclaredFields()) {
            boolean constant = Modifier.isStatic(field.getModifiers());
            blame(constant && !Modifier.isFinal(field.getModifiers()), "static state: " + field);
            fields += constant ? 0 : 1;
        }
        blame(fields > 20, "fields of " + c + ": " + fields);
        for (Method method : c.getDeclaredMethods()) {
            boolean clash = c != LastDownOwns.class || Modifier.isPrivate(method.getModifiers());
            blame(clash && names.contains(method.getName()), "the name of a public method: " + method);
            blame(method.getParameterCount() > 7, "parameters: " + method);
        }
    }

    private static void signs(String source) {
        String code = source.replaceAll("(?s)/\\*.*?\\*/", "").replaceAll("//[^\n]*", "");
        String[] never = {"->", "::", "\\bfinally\\b", "\\bcatch\\b", "\\bsynchronized\\b", "\\bassert\\b", "\\bgoto\\b",
            "\\bprotected\\b", "\\bpackage\\b", "\\bSystem\\.(?!arraycopy)", "\\bString\\b", "\\bdouble\\b", "\\bfloat\\b",
            "Exact\\b", "\\bthrow (?!new NoSuchElementException\\()", "\\bimport (?!java\\.util\\.NoSuchElementException;)",
            "\\bwhile\\b", "\\bnull\\b", "\\bnative\\b", "\\bMath\\.(?!min|max|abs)", "\\bInteger\\.(?!bitCount)"};
        for (String sign : never) {
            Matcher m = Pattern.compile(sign).matcher(code);
            blame(m.find(), "in the source: " + sign);
        }
        for (char c : source.toCharArray()) {
            blame(c > 126 || c < 32 && c != '\n', "a sign of the source: " + (int) c);
        }
        lengths(source);
    }

    /** A method begins with a line of 4 or 8 blanks that opens a brace behind a round bracket. */
    private static void lengths(String source) {
        String[] lines = source.split("\n");
        for (int i = 0; i < lines.length; i++) {
            Matcher m = Pattern.compile("( {4}| {8})\\w.*\\) ?(throws \\w+ )?\\{").matcher(lines[i]);
            if (!m.matches()) {
                continue;
            }
            int end = i;
            while (end < lines.length - 1 && !lines[end].equals(m.group(1) + "}")) {
                end++;
            }
            blame(end - i > 60, "long: " + lines[i].trim() + " " + (end - i));
        }
    }
}
