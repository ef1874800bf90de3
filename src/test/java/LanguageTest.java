import java.io.IOException;
import java.lang.reflect.Constructor;
import java.lang.reflect.Field;
import java.lang.reflect.Method;
import java.lang.reflect.Modifier;
import java.nio.file.Files;
import java.nio.file.Path;
import java.util.ArrayList;
import java.util.Arrays;
import java.util.List;
import java.util.TreeSet;
import java.util.regex.Matcher;
import java.util.regex.Pattern;

/** The face of the class, and the rules of LANGUAGE.md that can be seen from its text or its members. */
public final class LanguageTest {
    private static final String[] FACE = {
        "anew(int,int)", "answer(int,int)", "ask(int,int,int)", "count(int)", "entry(int,int,int)", "fits(int)",
        "key(int,int)", "keys()", "lose(int,int)", "place(int,int)", "sum(int)", "told(int)", "top(int,int)",
        "total(int)", "walk(int)", "wanted(int)"
    };
    private static final String[] BARRED_TEXT = {
        "\\bthrows?\\b", "\\btry\\b", "\\bcatch\\b", "\\bsynchronized\\b", "\\bassert\\b", "\\bimport\\b",
        "\\bpackage\\b", "->", "::", "\\bstatic\\s*\\{", "\\w+Exact\\b", "\\bObject\\b", "\\bnull\\b",
        "\\bequals\\b", "\\bhashCode\\b", "\\btoString\\b", "\\bThread\\b", "\\bRandom\\b", "\\bcurrentTimeMillis\\b",
        "\\bnanoTime\\b", "\\bgetenv\\b", "\\bfloat\\b", "\\bdouble\\b", "\"",
        // Rule 10 names && and || alone for what is true or not; masks of numbers are not needed here.
        "(?<!\\|)\\|(?!\\|)", "(?<!&)&(?!&)"
    };
    private static int wrong = 0;

    private static void check(boolean holds, String what) {
        if (!holds) {
            wrong++;
            System.out.println(what);
        }
    }

    private static String signature(Method method) {
        List<String> types = new ArrayList<>();
        for (Class<?> type : method.getParameterTypes()) {
            types.add(type.getSimpleName());
        }
        return method.getName() + "(" + String.join(",", types) + ")";
    }

    private static void face() {
        Class<?> face = BoundEnding.class;
        check(Modifier.isPublic(face.getModifiers()) && Modifier.isFinal(face.getModifiers()), "the class is not public and final");
        TreeSet<String> open = new TreeSet<>();
        TreeSet<String> openNames = new TreeSet<>();
        for (Method method : face.getDeclaredMethods()) {
            if (!Modifier.isPrivate(method.getModifiers())) {
                open.add(signature(method));
                openNames.add(method.getName());
                check(Modifier.isPublic(method.getModifiers()) && method.getReturnType() == int.class, method + " is not of the face");
            }
        }
        check(open.equals(new TreeSet<>(Arrays.asList(FACE))), "the face is " + open);
        TreeSet<String> constants = new TreeSet<>();
        for (Field field : face.getDeclaredFields()) {
            if (!Modifier.isPrivate(field.getModifiers())) {
                constants.add(Modifier.toString(field.getModifiers()) + " " + field.getType() + " " + field.getName());
            }
        }
        check(constants.equals(new TreeSet<>(Arrays.asList("public static final int BAD", "public static final int NONE",
            "public static final int FULL"))), "the constants are " + constants);
        Constructor<?>[] constructors = face.getDeclaredConstructors();
        check(constructors.length == 1 && Modifier.isPublic(constructors[0].getModifiers())
            && constructors[0].getParameterCount() == 0, "the constructor is not the document's");
        members(face, openNames);
        for (Class<?> inside : face.getDeclaredClasses()) {
            check(Modifier.isStatic(inside.getModifiers()), inside + " is not static");
            check(!Modifier.isPublic(inside.getModifiers()) && !Modifier.isProtected(inside.getModifiers()), inside + " is open");
            members(inside, openNames);
        }
        check(face.getDeclaredClasses().length < 12, "there are too many classes");
    }

    private static void members(Class<?> type, TreeSet<String> openNames) {
        int fields = 0;
        for (Field field : type.getDeclaredFields()) {
            boolean isStatic = Modifier.isStatic(field.getModifiers());
            check(!isStatic || Modifier.isFinal(field.getModifiers()), field + " is static and not final");
            fields += isStatic ? 0 : 1;
        }
        check(fields <= 20, type + " has too many fields");
        for (Method method : type.getDeclaredMethods()) {
            check(method.getParameterCount() <= 7, method + " has too many parameters");
            check(Modifier.isPublic(method.getModifiers()) || !openNames.contains(method.getName()), method + " bears the name of a public one");
        }
    }

    private static void text() throws IOException {
        Path path = Path.of(System.getProperty("program", "src/main/java/BoundEnding.java"));
        String whole = Files.readString(path);
        String bare = whole.replaceAll("(?s)/\\*.*?\\*/", "").replaceAll("//[^\n]*", "");
        for (String barred : BARRED_TEXT) {
            Matcher found = Pattern.compile(barred).matcher(bare);
            check(!found.find(), "the program's text has " + barred);
        }
        for (int i = 0; i < whole.length(); i++) {
            check(whole.charAt(i) < 128, "the program's text has a character that is not ASCII");
        }
        methods(bare);
    }

    /** Methods stay short; and no call makes an object: 'new' stands in fields and constructors alone. */
    private static void methods(String bare) {
        Pattern head = Pattern.compile("\\s+(public|private)( static)?( \\w+)? \\w+\\([^)]*\\) \\{");
        String[] lines = bare.split("\n");
        for (int i = 0; i < lines.length; i++) {
            Matcher found = head.matcher(lines[i]);
            if (!found.matches()) {
                continue;
            }
            boolean isConstructor = found.group(3) == null;
            String close = lines[i].replaceAll("\\S.*", "") + "}";
            int start = i;
            while (i < lines.length - 1 && !lines[i].equals(close)) {
                check(isConstructor || !lines[i].matches(".*\\bnew\\b.*"), "an object is made in " + lines[start].trim());
                i++;
            }
            check(i - start < 60, lines[start].trim() + " is too long");
        }
    }

    /** Any number for any argument, in a state that has been through many calls: no call throws. */
    private static void nothingIsThrown() {
        int[] odd = {Integer.MIN_VALUE, -1001, -513, -13, -2, -1, 0, 1, 2, 3, 7, 8, 11, 12, 15, 16, 19, 20, 120, 511, 512,
            1000, 10800, Integer.MAX_VALUE};
        BoundEnding x = new BoundEnding();
        try {
            for (int a : odd) {
                for (int b : odd) {
                    for (int c : odd) {
                        x.entry(a, b, c);
                        x.ask(a, b, c);
                    }
                    x.key(a, b);
                    x.place(a, b);
                    x.top(a, b);
                    x.walk(a);
                    x.anew(a, b);
                    x.answer(a, b);
                    x.keys();
                    x.anew(a, b);
                    x.answer(a, b);
                    x.lose(a, b);
                }
                x.wanted(a);
                x.fits(a);
                x.sum(a);
                x.total(a);
                x.told(a);
                x.count(a);
            }
        } catch (RuntimeException e) {
            check(false, "a call threw " + e);
        }
    }

    public static void main(String[] args) throws IOException {
        face();
        text();
        nothingIsThrown();
        System.out.println(wrong == 0 ? "all rules looked at are kept" : wrong + " rules are not kept");
        if (wrong != 0) {
            System.exit(1);
        }
    }
}
