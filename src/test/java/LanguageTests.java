import java.io.IOException;
import java.lang.reflect.Constructor;
import java.lang.reflect.Field;
import java.lang.reflect.InvocationTargetException;
import java.lang.reflect.Member;
import java.lang.reflect.Method;
import java.lang.reflect.Modifier;
import java.nio.charset.StandardCharsets;
import java.nio.file.Files;
import java.nio.file.Path;
import java.util.ArrayList;
import java.util.Arrays;
import java.util.Comparator;
import java.util.List;
import java.util.Random;
import java.util.Set;
import java.util.TreeSet;
import java.util.regex.Matcher;
import java.util.regex.Pattern;

/** The rules of LANGUAGE.md that can be seen from outside or by a scan of the source's words. */
public final class LanguageTests {
    private static final Path SOURCE = Path.of("src/main/java/SealCouncil.java");
    private static final int MOST_FIELDS = 20;
    private static final int MOST_CLASSES = 12;
    private static final int MOST_PARAMETERS = 7;
    private static final int MOST_LINES = 60;
    private static final int[] ODD = {Integer.MIN_VALUE, -1000001, -100, -2, -1, 0, 1, 2, 3, 4, 5, 7, 8, 9, 16, 19, 20,
        25, 32, 89, 100, 102, 400, 999, 1999, 2000, 2001, 9999, 10001, 20000, Integer.MAX_VALUE};
    private static int wrong;

    private static void fail(String what) {
        wrong++;
        System.out.println(what);
    }

    private static List<Method> publicMethods() {
        List<Method> methods = new ArrayList<>();
        for (Method m : SealCouncil.class.getDeclaredMethods()) {
            if (Modifier.isPublic(m.getModifiers())) {
                methods.add(m);
            }
        }
        methods.sort(Comparator.comparing(Method::getName));
        return methods;
    }

    private static void testFace() throws IOException {
        Set<String> due = new TreeSet<>();
        String doc = Files.readString(Path.of("../shared/DOC.md"), StandardCharsets.UTF_8);
        Matcher face = Pattern.compile("(?m)^    public int (\\w+)\\((.*)\\);$").matcher(doc);
        while (face.find()) {
            due.add(face.group(1) + "(" + face.group(2).replaceAll("(int|long|boolean) \\w+", "$1") + ")");
        }
        Set<String> there = new TreeSet<>();
        for (Method m : publicMethods()) {
            List<String> types = new ArrayList<>();
            for (Class<?> type : m.getParameterTypes()) {
                types.add(type.getName());
            }
            there.add(m.getName() + "(" + String.join(", ", types) + ")");
        }
        if (due.isEmpty() || !due.equals(there)) {
            fail("the face is " + there + ", due is " + due);
        }
    }

    /** Public and final, with one constructor and calls of objects that answer an int. */
    private static void testShape() {
        int shape = SealCouncil.class.getModifiers();
        if (!Modifier.isPublic(shape) || !Modifier.isFinal(shape) || SealCouncil.class.getSuperclass() != Object.class
                || SealCouncil.class.getInterfaces().length > 0 || !SealCouncil.class.getPackageName().isEmpty()) {
            fail("the class is not the document's");
        }
        Constructor<?>[] made = SealCouncil.class.getDeclaredConstructors();
        if (made.length != 1 || made[0].getParameterCount() != 0 || !Modifier.isPublic(made[0].getModifiers())) {
            fail("the constructor is not the document's");
        }
        for (Method m : publicMethods()) {
            if (m.getReturnType() != int.class || Modifier.isStatic(m.getModifiers())
                    || m.getExceptionTypes().length > 0) {
                fail(m + " is not the document's");
            }
        }
    }

    private static void testMembers() {
        Class<?>[] inside = SealCouncil.class.getDeclaredClasses();
        if (inside.length + 1 > MOST_CLASSES) {
            fail(inside.length + 1 + " classes");
        }
        Set<String> names = new TreeSet<>();
        publicMethods().forEach(m -> names.add(m.getName()));
        List<Member> own = new ArrayList<>(Arrays.asList(SealCouncil.class.getDeclaredFields()));
        own.addAll(Arrays.asList(SealCouncil.class.getDeclaredMethods()));
        for (Member m : own) {
            boolean face = names.contains(m.getName()) && Modifier.isPublic(m.getModifiers());
            if (!face && !Modifier.isPrivate(m.getModifiers())) {
                fail(m.getName() + " can be seen from outside");
            }
            if (!face && m instanceof Method && names.contains(m.getName())) {
                fail(m.getName() + " bears the name of a public method");
            }
        }
        List<Class<?>> all = new ArrayList<>(Arrays.asList(inside));
        all.add(SealCouncil.class);
        all.forEach(LanguageTests::testClass);
        for (Class<?> c : inside) {
            for (Method m : c.getDeclaredMethods()) {
                if (names.contains(m.getName())) {
                    fail(c.getName() + "." + m.getName() + " bears the name of a public method");
                }
            }
        }
    }

    private static void testClass(Class<?> c) {
        int fields = 0;
        for (Field f : c.getDeclaredFields()) {
            boolean constant = Modifier.isStatic(f.getModifiers());
            fields += constant ? 0 : 1;
            if (constant && !Modifier.isFinal(f.getModifiers())) {
                fail(f + " is static and not final");
            }
        }
        if (fields > MOST_FIELDS) {
            fail(c.getName() + " has " + fields + " fields");
        }
        if (!Modifier.isFinal(c.getModifiers()) || c != SealCouncil.class && !Modifier.isStatic(c.getModifiers())) {
            fail(c.getName() + " is not final and static");
        }
        for (Method m : c.getDeclaredMethods()) {
            if (m.getParameterCount() > MOST_PARAMETERS) {
                fail(m + " has too many parameters");
            }
        }
        for (Constructor<?> made : c.getDeclaredConstructors()) {
            if (made.getParameterCount() > MOST_PARAMETERS) {
                fail(made + " has too many parameters");
            }
        }
    }

    private static void testWords() throws IOException {
        String source = Files.readString(SOURCE, StandardCharsets.UTF_8);
        String code = source.replaceAll("(?s)/\\*.*?\\*/", "").replaceAll("//[^\n]*", "")
                .replaceAll("'[^'\n]+'", "' '").replaceAll("\"[^\"\n]*\"", "\"\"");
        String[] banned = {"\\bthrow\\b", "\\btry\\b", "\\bcatch\\b", "\\bsynchronized\\b", "\\bassert\\b", "->", "::",
            "Exact\\b", "\\bhashCode\\b", "\\btoString\\b", "\\bMath\\.(random|sqrt|pow)\\b", "\\bwhile\\b",
            "\\bSystem\\.(?!arraycopy)", "\\bstatic\\s*\\{", "\\bpackage\\b", "\\bThread\\b", "\\bvolatile\\b"};
        for (String word : banned) {
            if (Pattern.compile(word).matcher(code).find()) {
                fail("the source has " + word);
            }
        }
        Matcher imports = Pattern.compile("(?m)^import (.*);$").matcher(code);
        while (imports.find()) {
            if (!imports.group(1).equals("java.util.Arrays")) {
                fail("the source imports " + imports.group(1));
            }
        }
        for (int i = 0; i < source.length(); i++) {
            if (source.charAt(i) > 126) {
                fail("the source has a sign beyond 127 at " + i);
            }
        }
        testLengths(code);
    }

    /** Methods begin with a line that ends in { and end with a } in the same column. */
    private static void testLengths(String code) {
        Matcher method = Pattern.compile("(?ms)^( {4}| {8})[\\w<][^\n;=]*\\)[^\n;=]*\\{$.*?^\\1\\}$").matcher(code);
        int methods = 0;
        while (method.find()) {
            methods++;
            if (method.group().lines().count() > MOST_LINES) {
                fail("a long method: " + method.group().lines().findFirst().orElse(""));
            }
        }
        if (methods < 100) {
            fail("only " + methods + " methods were looked at");
        }
    }

    private static Object argument(Class<?> type, Random random) {
        int odd = ODD[random.nextInt(ODD.length)];
        if (type == boolean.class) {
            return random.nextBoolean();
        }
        // Words of few signs make a TEXT now and then.
        return type == long.class ? (Object) (random.nextInt(3) == 0 ? random.nextLong() : 0x297c61282b643121L) : odd;
    }

    /** Two objects, each through the same calls with any arguments: none throws, and both answer alike. */
    private static void testAnyArguments() throws IllegalAccessException {
        List<Method> methods = publicMethods();
        Random random = new Random(7);
        for (int run = 0; run < 2000; run++) {
            SealCouncil one = new SealCouncil();
            SealCouncil other = new SealCouncil();
            for (int i = 0; i < 512; i++) {
                Method m = methods.get(random.nextInt(methods.size()));
                Object[] arguments = new Object[m.getParameterCount()];
                for (int j = 0; j < arguments.length; j++) {
                    arguments[j] = argument(m.getParameterTypes()[j], random);
                }
                try {
                    if (!m.invoke(one, arguments).equals(m.invoke(other, arguments))) {
                        fail("unlike: " + m.getName() + Arrays.toString(arguments));
                    }
                } catch (InvocationTargetException e) {
                    fail(m.getName() + Arrays.toString(arguments) + " threw " + e.getCause());
                    return;
                }
            }
        }
    }

    public static void main(String[] args) throws IOException, IllegalAccessException {
        testFace();
        testShape();
        testMembers();
        testWords();
        testAnyArguments();
        System.out.println(wrong == 0 ? "the language is kept to" : wrong + " rules are not kept to");
        if (wrong != 0) {
            System.exit(1);
        }
    }
}
