import java.io.IOException;
import java.lang.reflect.Constructor;
import java.lang.reflect.Field;
import java.lang.reflect.Method;
import java.lang.reflect.Modifier;
import java.nio.charset.StandardCharsets;
import java.nio.file.Files;
import java.nio.file.Path;
import java.util.Arrays;
import java.util.HashSet;
import java.util.List;
import java.util.Set;
import java.util.regex.Matcher;
import java.util.regex.Pattern;

/** The public face, and the rules of LANGUAGE.md that can be seen in the source or by reflection. */
public final class LanguageTest {
    private static final List<String> FACE = List.of(
        "int write(int,long)", "int wipe()", "int fault()", "int ship()", "int place(int,int)", "int timber(int,int)",
        "int take(int)", "int put(int,int)", "int move(int,int)", "int watch()", "int back()", "int leak()",
        "int floats()", "int harm(int)", "int may(int,int)", "int best(int)", "int bestAt(int,int)", "int port(int)",
        "int portAt(int,int)", "long storm(int,int,boolean)", "int share(int,boolean)", "int log(int,int)",
        "int keep(int)", "int again(int)", "int count(int)");
    /** "Ahead of the calls .. the interface says: ----". */
    private static final List<String> HEADINGS = List.of("the ship: write, wipe, fault, ship, place, timber",
        "acts: take, put, move, watch, back",
        "how she is: leak, floats, harm, may, best, bestAt, port, portAt", "storm, shares, the log: storm, share, log",
        "slots: keep, again, count");
    private static final List<String> CONSTANTS = List.of("UNKNOWN", "OUTSIDE", "STATE", "FULL", "NONE");
    private static final List<String> LIBRARY = List.of("System.arraycopy", "Math.max", "Math.min", "Integer.bitCount",
        "Integer.numberOfTrailingZeros", "Math.floorMod");

    private static final int[] NUMBERS = {Integer.MIN_VALUE, -101, -1, 0, 1, 2, 3, 9, 10, 11, 72, 73, 100, 200, 1023,
        1024, Integer.MAX_VALUE};

    public static void main(String[] args) throws IOException, ReflectiveOperationException {
        face();
        classes();
        for (String text : List.of("", "S001", "S320P94-05P53019O380", "S001O19-P91-00", "S99",
            "S999" + "P11-09".repeat(10), "S009" + "O99-".repeat(10))) {
            anyNumbers(text);
        }
        String source = Files.readString(Path.of("src/main/java/ShipFromItself.java"), StandardCharsets.ISO_8859_1);
        headings(source);
        words(source);
        Check.end();
    }

    /** No call throws, whatever its numbers: each call by itself, and then all of them, mixed. */
    private static void anyNumbers(String text) throws ReflectiveOperationException {
        Method[] methods = Arrays.stream(ShipFromItself.class.getDeclaredMethods())
            .filter(method -> Modifier.isPublic(method.getModifiers())).toArray(Method[]::new);
        int all = NUMBERS.length * NUMBERS.length;
        long mix = 1;
        for (Method method : methods) {
            ShipFromItself x = shipWith(text);
            for (int one = 0; one < all; one++) {
                answers(x, method, one, text);
            }
            for (int call = 0; call < 200; call++) {
                mix = mix * 6364136223846793005L + 1442695040888963407L;
                answers(x, methods[(int) ((mix >>> 33) % methods.length)], (int) ((mix >>> 40) % all), text);
            }
        }
    }

    private static ShipFromItself shipWith(String text) {
        ShipFromItself x = new ShipFromItself();
        Check.write(x, text);
        x.ship();
        return x;
    }

    private static void answers(ShipFromItself x, Method method, int one, String text)
            throws ReflectiveOperationException {
        Object answer = method.invoke(x, numbersFor(method, one));
        Check.holds(method + " of " + text, ((Number) answer).longValue() >= ShipFromItself.NONE);
    }

    private static Object[] numbersFor(Method method, int one) {
        Class<?>[] types = method.getParameterTypes();
        Object[] numbers = new Object[types.length];
        for (int i = 0; i < types.length; i++) {
            int number = NUMBERS[(i == 0 ? one : one / NUMBERS.length) % NUMBERS.length];
            numbers[i] = types[i] == boolean.class ? (Object) (number > 0)
                : types[i] == long.class ? (Object) (long) number : (Object) number;
        }
        return numbers;
    }

    private static void face() {
        Set<String> seen = new HashSet<>();
        for (Method method : ShipFromItself.class.getDeclaredMethods()) {
            if (Modifier.isPublic(method.getModifiers())) {
                seen.add(told(method));
            } else {
                Check.holds("private: " + method, Modifier.isPrivate(method.getModifiers()));
            }
        }
        Check.holds("the face's methods: " + seen, seen.equals(new HashSet<>(FACE)));
        Constructor<?>[] constructors = ShipFromItself.class.getDeclaredConstructors();
        Check.due("constructors", constructors.length, 1);
        Check.holds("public constructor without parameters",
            Modifier.isPublic(constructors[0].getModifiers()) && constructors[0].getParameterCount() == 0);
        Set<String> constants = new HashSet<>();
        for (Field field : ShipFromItself.class.getDeclaredFields()) {
            if (Modifier.isPublic(field.getModifiers())) {
                constants.add(field.getName());
                Check.holds("static final int: " + field, Modifier.isStatic(field.getModifiers())
                    && Modifier.isFinal(field.getModifiers()) && field.getType() == int.class);
            } else {
                Check.holds("private: " + field, Modifier.isPrivate(field.getModifiers()));
            }
        }
        Check.holds("the face's constants: " + constants, constants.equals(new HashSet<>(CONSTANTS)));
        Check.holds("public final class", ShipFromItself.class.getModifiers() == (Modifier.PUBLIC | Modifier.FINAL));
    }

    private static String told(Method method) {
        StringBuilder told = new StringBuilder();
        told.append(method.getReturnType()).append(' ').append(method.getName()).append('(');
        for (Class<?> one : method.getParameterTypes()) {
            told.append(told.charAt(told.length() - 1) == '(' ? "" : ",").append(one);
        }
        return told.append(')').toString();
    }

    private static void classes() {
        Class<?>[] inside = ShipFromItself.class.getDeclaredClasses();
        Check.holds("some twelve classes", inside.length + 1 <= 12);
        fields(ShipFromItself.class);
        for (Class<?> one : inside) {
            Check.holds("private static: " + one,
                Modifier.isPrivate(one.getModifiers()) && Modifier.isStatic(one.getModifiers()));
            fields(one);
            for (Method method : one.getDeclaredMethods()) {
                Check.holds("no name of the face: " + method,
                    FACE.stream().noneMatch(told -> told.contains(' ' + method.getName() + '(')));
                Check.holds("seven parameters at most: " + method, method.getParameterCount() <= 7);
            }
        }
        for (Method method : ShipFromItself.class.getDeclaredMethods()) {
            Check.holds("no name of the face: " + method, Modifier.isPublic(method.getModifiers())
                || FACE.stream().noneMatch(told -> told.contains(' ' + method.getName() + '(')));
        }
    }

    /** Some twenty beside the constants; static ones are final, and numbers. */
    private static void fields(Class<?> one) {
        long own = Arrays.stream(one.getDeclaredFields())
            .filter(field -> !Modifier.isStatic(field.getModifiers())).count();
        Check.holds("some twenty fields: " + one, own <= 20);
        for (Field field : one.getDeclaredFields()) {
            boolean constant = Modifier.isFinal(field.getModifiers()) && field.getType() == int.class;
            Check.holds("no static state: " + field, constant || !Modifier.isStatic(field.getModifiers()));
        }
    }

    private static void headings(String source) {
        StringBuilder told = new StringBuilder();
        Matcher matcher = Pattern.compile("(?m)^    // ---- (.*)$|^    public (?:int|long) (\\w+)\\(").matcher(source);
        while (matcher.find()) {
            boolean heading = matcher.group(1) != null;
            boolean first = told.length() > 0 && told.charAt(told.length() - 1) == ':';
            told.append(heading ? "\n" : first ? " " : ", ").append(matcher.group(heading ? 1 : 2));
            told.append(heading ? ":" : "");
        }
        String[] lines = told.toString().split("\n");
        for (int i = 0; i < HEADINGS.size(); i++) {
            String line = i + 1 < lines.length ? lines[i + 1] : "";
            Check.holds("\"" + line + "\" and not \"" + HEADINGS.get(i) + "\"", line.equals(HEADINGS.get(i)));
        }
        Check.due("no call ahead of the first heading", lines[0].length(), 0);
    }

    private static void words(String source) {
        String code = source.replaceAll("(?s)/\\*.*?\\*/", " ").replaceAll("//[^\n]*", " ");
        for (String word : List.of("throw", "throws", "try", "catch", "finally", "synchronized", "assert", "import",
            "package", "native", "volatile", "transient", "var", "instanceof", "String", "null", "protected",
            "@\\w+")) {
            Check.holds("without " + word, !Pattern.compile("(?<!\\w)" + word + "(?!\\w)").matcher(code).find());
        }
        Check.holds("no lambda, no method reference", !code.contains("->") && !code.contains("::"));
        Check.holds("plain signs", source.chars().allMatch(sign -> sign == '\n' || sign >= 32 && sign < 127));
        Matcher library = Pattern.compile("\\b[A-Z][A-Za-z]*\\.[a-z]\\w*").matcher(code);
        while (library.find()) {
            Check.holds("library: " + library.group(), LIBRARY.contains(library.group()));
        }
        Matcher loop = Pattern.compile("\\b(while|do)\\b").matcher(code);
        Check.holds("loops by a counter alone", !loop.find());
    }
}
