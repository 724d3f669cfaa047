import com.sun.management.ThreadMXBean;
import java.lang.management.ManagementFactory;
import java.lang.reflect.Constructor;
import java.lang.reflect.Field;
import java.lang.reflect.Method;
import java.lang.reflect.Modifier;
import java.nio.file.Files;
import java.nio.file.Path;
import java.util.ArrayList;
import java.util.List;
import java.util.Set;
import java.util.TreeSet;
import java.util.regex.Matcher;
import java.util.regex.Pattern;

/** The public face, and those rules of LANGUAGE.md that can be seen without running the class. */
public final class FetchRulesSource {
    private static final Path SOURCE = Path.of("src/main/java/FetchRules.java");
    private static final Path DOCUMENT = Path.of("../shared/DOC.md");
    // 'public int place(int host, int rate);' in the face that the document shows
    private static final Pattern METHOD = Pattern.compile("public (\\w+ \\w+)\\(([^)]*)\\);");
    private static final String[] FORBIDDEN = {
        "package", "throw", "throws", "try", "catch", "synchronized", "assert", "->", "::", "Object", "protected",
        "\\w+Exception", "\\w+Exact", "var"};

    // A run's room has 7.3 million fields and elements; most are of four bytes or more.
    private static final long MOST_BYTES_TAKEN = 4L * 7_300_000;

    private static final Set<Class<?>> CONSTANT_TYPES = Set.of(int.class, long.class, boolean.class, char.class,
        String.class, int[].class, long[].class, char[].class, byte[].class);
    private static final int MOST_LINES_OF_METHOD = 60;

    private static int wrong = 0;

    private static void wants(boolean holds, String what) {
        if (!holds) {
            wrong++;
            System.out.println("not so: " + what);
        }
    }

    public static void main(String[] args) throws Exception {
        checkFace();
        checkClasses();
        checkText();
        checkRoom();
        System.out.println(wrong == 0 ? "face and text are as told" : wrong + " faults of face or text");
        if (wrong != 0) {
            System.exit(1);
        }
    }

    private static String written(Method method) {
        StringBuilder text = new StringBuilder();
        text.append(method.getReturnType().getSimpleName()).append(' ').append(method.getName()).append('(');
        Class<?>[] types = method.getParameterTypes();
        for (int i = 0; i < types.length; i++) {
            text.append(i == 0 ? "" : ", ").append(types[i].getSimpleName());
        }
        return text.append(')').toString();
    }

    /** The methods of the document's face, written like those of the class. */
    private static TreeSet<String> face() throws Exception {
        TreeSet<String> methods = new TreeSet<>();
        Matcher method = METHOD.matcher(Files.readString(DOCUMENT));
        while (method.find()) {
            methods.add(method.group(1) + "(" + method.group(2).replaceAll("(\\w+) \\w+", "$1") + ")");
        }
        return methods;
    }

    private static void checkFace() throws Exception {
        wants(Modifier.isPublic(FetchRules.class.getModifiers()), "the class is public");
        wants(Modifier.isFinal(FetchRules.class.getModifiers()), "the class is final");
        TreeSet<String> open = new TreeSet<>();
        TreeSet<String> names = new TreeSet<>();
        List<String> hidden = new ArrayList<>();
        for (Method method : FetchRules.class.getDeclaredMethods()) {
            if (Modifier.isPrivate(method.getModifiers())) {
                hidden.add(method.getName());
            } else {
                wants(Modifier.isPublic(method.getModifiers()), method + " is public or private");
                open.add(written(method));
                names.add(method.getName());
            }
        }
        wants(open.equals(face()), "the public methods are the document's: " + open);
        for (String name : hidden) {
            wants(!names.contains(name), "no private method bears the name of a public one: " + name);
        }
        Constructor<?>[] constructors = FetchRules.class.getDeclaredConstructors();
        wants(constructors.length == 1, "one constructor");
        wants(Modifier.isPublic(FetchRules.class.getConstructor(int.class).getModifiers()), "a public constructor of an int");
        for (Field field : FetchRules.class.getDeclaredFields()) {
            wants(Modifier.isPrivate(field.getModifiers()) || field.getName().equals("NONE"), field + " is private");
        }
        Field none = FetchRules.class.getField("NONE");
        wants(Modifier.isStatic(none.getModifiers()) && Modifier.isFinal(none.getModifiers()), "NONE is static and final");
        wants(none.getType() == int.class && none.getInt(null) == -1, "NONE is the int -1");
    }

    private static void checkClasses() {
        List<Class<?>> classes = new ArrayList<>(List.of(FetchRules.class.getDeclaredClasses()));
        for (Class<?> inside : classes) {
            wants(Modifier.isStatic(inside.getModifiers()), inside + " is static");
            wants(!Modifier.isPublic(inside.getModifiers()), inside + " isn't public");
        }
        classes.add(FetchRules.class);
        wants(classes.size() <= 12, "twelve classes at the most");
        for (Class<?> one : classes) {
            int fields = 0;
            for (Field field : one.getDeclaredFields()) {
                boolean isStatic = Modifier.isStatic(field.getModifiers());
                wants(!isStatic || Modifier.isFinal(field.getModifiers()), field + " is final, as it is static");
                wants(!isStatic || CONSTANT_TYPES.contains(field.getType()), field + " is a constant that rule 5 allows");
                wants(isOfRuleThree(field.getType(), classes), field + " has a type that rule 3 allows");
                fields += isStatic ? 0 : 1;
            }
            wants(fields <= 20, one + " has twenty fields at the most");
            for (Method method : one.getDeclaredMethods()) {
                wants(method.getParameterCount() <= 7, method + " has seven parameters at the most");
            }
        }
    }

    private static boolean isOfRuleThree(Class<?> type, List<Class<?>> own) {
        Class<?> element = type.isArray() ? type.getComponentType() : type;
        return element.isPrimitive() || element == String.class || own.contains(element);
    }

    /** All calls of one run live in one room, so 512 of the dearest may not take much of it. */
    private static void checkRoom() {
        ThreadMXBean threads = (ThreadMXBean) ManagementFactory.getThreadMXBean();
        long self = Thread.currentThread().getId();
        long before = threads.getThreadAllocatedBytes(self);
        FetchRules x = new FetchRules(5);
        for (int place = 0; place < 10; place++) {
            x.place(0, 1);
            for (int i = 0; i < 11; i++) {
                // Three ENTRIES of one character and no bytes each; nine bytes take two calls.
                x.content(place, 0x016100016200L, 6);
                x.content(place, 0x016300L, 3);
            }
            x.from(x.want(x.digest(place)), place);
            x.begin(place);
        }
        x.tick(50);
        x.tick(50);
        for (int i = 0; i < 238; i++) {
            x.unpack(i % 10, i % 6);
        }
        long taken = threads.getThreadAllocatedBytes(self) - before;
        wants(x.about(9, 0) == 3, "the dearest calls are reached");
        wants(taken < MOST_BYTES_TAKEN, "512 calls take little room, not " + taken + " bytes");
    }

    private static void checkText() throws Exception {
        String text = Files.readString(SOURCE);
        String code = text.replaceAll("(?s)/\\*.*?\\*/", "").replaceAll("//[^\n]*", "");
        code = code.replaceAll("import java\\.util\\.(ArrayList|Arrays|Iterator|List);", "");
        wants(!code.contains("import "), "the library is only what is listed");
        for (String word : FORBIDDEN) {
            boolean isSign = word.equals("->") || word.equals("::");
            Matcher found = Pattern.compile(isSign ? word : "\\b" + word + "\\b").matcher(code);
            wants(!found.find(), "the class is without " + word);
        }
        checkMethodLengths(text.split("\n"));
    }

    /** A method begins with a line that ends in ') {' behind a modifier or type, and ends with a brace as far in. */
    private static void checkMethodLengths(String[] lines) {
        Pattern head = Pattern.compile("( {4}| {8})\\w[\\w\\[\\] ]*\\(.*\\) \\{");
        int methods = 0;
        for (int i = 0; i < lines.length; i++) {
            Matcher found = head.matcher(lines[i]);
            if (found.matches() && !lines[i].strip().matches("(if|for|while|switch) .*")) {
                methods++;
                int last = i;
                while (last < lines.length && !lines[last].equals(found.group(1) + "}")) {
                    last++;
                }
                wants(last - i < MOST_LINES_OF_METHOD, "a short method at line " + (i + 1));
            }
        }
        wants(methods > 20, "methods are found in the text");
    }
}
