import java.io.IOException;
import java.lang.reflect.Constructor;
import java.lang.reflect.Field;
import java.lang.reflect.Method;
import java.lang.reflect.Modifier;
import java.nio.file.Files;
import java.nio.file.Path;
import java.util.List;
import java.util.Random;
import java.util.Set;
import java.util.TreeSet;
import java.util.regex.Matcher;
import java.util.regex.Pattern;

/** The public face as the document has it, the rules of LANGUAGE.md that can be looked for, and calls with any numbers. */
public final class FaceTest {
    private static final Check check = new Check("FaceTest");
    private static final List<String> FACE = List.of("int feed(int,int,int,int,int)", "int end(int)", "int text(int,int)",
        "int fault(int)", "int rail(int,int)", "int deed(int,int,int)", "int till(int,int)", "int state(int,int,int,int)",
        "int soonest(int,int,int,int,boolean)", "int duty(int,int)", "int round(int,int,int)",
        "int meeting(int,int,int,boolean)", "int offices(int,int,boolean)", "int cut(int,int,int,int,boolean)",
        "long mean(int,int,int,int,boolean)", "int ring(int,int)", "int counts(int,int,int)", "int sight(int,int,int)",
        "int could(int,int,int)", "int drawn(int,int,int,int)", "int lands(int,int)", "int trains(int,int)",
        "int latest(int,int,int,int)", "int board(int,int,int,int)", "int gathered(int,boolean)", "int orders(int,int,int)",
        "int lacks(int,int,boolean)", "int ledge(int,int,boolean)", "int busy(int,boolean)", "int certain(int,int,boolean)",
        "int stuck(int)", "int after(int,int,int)", "int count(int)", "boolean image(int)", "boolean again(int)");

    private FaceTest() {
    }

    public static void main(String[] args) throws ReflectiveOperationException, IOException {
        face();
        namesOfPrivateMethods(ElsewhereStamps.class);
        source();
        for (int seed = 0; seed < 300; seed++) {
            anyCalls(new Random(seed));
        }
        check.finish();
    }

    private static String signature(Method method) {
        StringBuilder text = new StringBuilder(method.getReturnType() + " " + method.getName() + "(");
        for (Class<?> type : method.getParameterTypes()) {
            text.append(text.charAt(text.length() - 1) == '(' ? "" : ",").append(type);
        }
        return text + ")";
    }

    private static void face() {
        Class<?> type = ElsewhereStamps.class;
        check.same("final and public", Modifier.isFinal(type.getModifiers()) && Modifier.isPublic(type.getModifiers()), true);
        Set<String> seen = new TreeSet<>();
        for (Method method : type.getDeclaredMethods()) {
            if (!Modifier.isPrivate(method.getModifiers())) {
                check.same(method + " is public", Modifier.isPublic(method.getModifiers()), true);
                seen.add(signature(method));
            }
        }
        check.same("the face " + seen, seen.equals(new TreeSet<>(FACE)), true);
        for (Field field : type.getDeclaredFields()) {
            boolean face = field.getName().equals("NONE");
            check.same(field + " is private", Modifier.isPrivate(field.getModifiers()), !face);
            check.same(field + " if static, final", Modifier.isStatic(field.getModifiers()), staticConstant(field));
        }
        Constructor<?>[] constructors = type.getDeclaredConstructors();
        check.same("one constructor", constructors.length, 1);
        check.same("without arguments", constructors[0].getParameterCount(), 0);
    }

    /** Static fields are constants. */
    private static boolean staticConstant(Field field) {
        return Modifier.isStatic(field.getModifiers()) && Modifier.isFinal(field.getModifiers());
    }

    private static void namesOfPrivateMethods(Class<?> type) {
        Set<String> names = new TreeSet<>();
        for (String line : FACE) {
            names.add(line.substring(line.indexOf(' ') + 1, line.indexOf('(')));
        }
        for (Class<?> inside : type.getDeclaredClasses()) {
            check.same(inside + " is static", Modifier.isStatic(inside.getModifiers()), true);
            for (Method method : inside.getDeclaredMethods()) {
                check.same(method + " has a name of its own", names.contains(method.getName()), false);
                check.same(method + " takes at most seven", method.getParameterCount() <= 7, true);
            }
            for (Field field : inside.getDeclaredFields()) {
                check.same(field + " if static, final", Modifier.isStatic(field.getModifiers()), staticConstant(field));
            }
        }
        for (Method method : type.getDeclaredMethods()) {
            if (Modifier.isPrivate(method.getModifiers())) {
                check.same(method + " has a name of its own", names.contains(method.getName()), false);
            }
        }
        check.same("at most twelve classes", type.getDeclaredClasses().length < 12, true);
        fewFields(type);
        for (Class<?> inside : type.getDeclaredClasses()) {
            fewFields(inside);
        }
    }

    /** A class has some twenty fields beside its constants. */
    private static void fewFields(Class<?> type) {
        int fields = 0;
        for (Field field : type.getDeclaredFields()) {
            fields += Modifier.isStatic(field.getModifiers()) ? 0 : 1;
        }
        check.same(type + " has few fields: " + fields, fields <= 20, true);
    }

    private static void source() throws IOException {
        String text = Files.readString(Path.of("src/main/java/ElsewhereStamps.java"));
        text = text.replaceAll("(?s)/\\*.*?\\*/", "").replaceAll("//[^\\n]*", "");
        for (String word : new String[] {"throw", "try", "catch", "synchronized", "assert", "import", "package", "new int\\[\\]\\[",
            "->", "::", "Exact", "Random", "currentTimeMillis", "nanoTime", "protected", "double", "float"}) {
            Matcher matcher = Pattern.compile(word.matches("[a-z]+") ? "\\b" + word + "\\b" : word).matcher(text);
            check.same("'" + word + "' in the source", matcher.find(), false);
        }
        Matcher calls = Pattern.compile("\\b(Math|Integer|Long|System|Arrays|String)\\.(\\w+)").matcher(text);
        Set<String> allowed = Set.of("Math.max", "Math.min", "Math.floorMod", "Integer.bitCount", "System.arraycopy");
        while (calls.find()) {
            check.same(calls.group() + " is allowed", allowed.contains(calls.group()), true);
        }
        methodsAreShort(text.split("\n", -1));
    }

    /** A method's head and its last brace stand at one depth of blanks. */
    private static void methodsAreShort(String[] lines) {
        int methods = 0;
        for (int i = 0; i < lines.length; i++) {
            Matcher head = Pattern.compile("( {4}| {8})[\\w\\[\\]].*\\) \\{").matcher(lines[i]);
            if (head.matches()) {
                int last = i;
                while (!lines[last].equals(head.group(1) + "}")) {
                    last++;
                }
                methods++;
                check.same("lines of " + lines[i].trim(), last - i + 1 <= 60, true);
            }
            check.same("no long line: " + lines[i], lines[i].length() <= 120, true);
        }
        check.same("the methods were found", methods > 100, true);
    }

    private static final int[] NUMBERS = {0, 1, 2, 3, 4, 5, 6, 7, 8, 10, 11, 12, 13, 20, 21, 23, 30, 33, 40, 47, 60, 99, 100, 101, 110,
        175, 200, 299, 411, -1, -2, -3, Integer.MIN_VALUE, Integer.MIN_VALUE + 1, Integer.MAX_VALUE, Integer.MAX_VALUE - 9};

    /** Nothing is ever thrown, whatever is told and asked; the same calls give the same answers on two objects. */
    private static void anyCalls(Random random) throws ReflectiveOperationException {
        ElsewhereStamps x = new ElsewhereStamps();
        ElsewhereStamps y = new ElsewhereStamps();
        Method[] methods = ElsewhereStamps.class.getMethods();
        java.util.Arrays.sort(methods, java.util.Comparator.comparing(Method::toString));
        String[] words = {"lands ", "train ", "permit ", "needs ", "law ", "clerk ", "ride ", "wait ", "mark ", "seen ", ";", ";", "0 ", "1 ",
            "2 ", "3 ", "5 ", "11 ", "99 ", "\n"};
        for (int call = 0; call < 512; call++) {
            Method method = methods[random.nextInt(methods.length)];
            if (random.nextInt(9) == 0) {
                tellSomething(random, words, x, y);
            } else if (method.getDeclaringClass() == ElsewhereStamps.class) {
                Object[] values = new Object[method.getParameterCount()];
                for (int i = 0; i < values.length; i++) {
                    boolean small = random.nextInt(4) != 0;
                    boolean isInt = method.getParameterTypes()[i] == int.class;
                    int number = small ? random.nextInt(4) - 1 : NUMBERS[random.nextInt(NUMBERS.length)];
                    values[i] = isInt ? (Object) (random.nextInt(50) == 0 ? random.nextInt() : number) : (Object) random.nextBoolean();
                }
                check.same(method.getName(), method.invoke(x, values).equals(method.invoke(y, values)), true);
            }
        }
    }

    private static void tellSomething(Random random, String[] words, ElsewhereStamps x, ElsewhereStamps y) {
        String[] tales = {Tales.RAIL, Tales.NO_TRAINS, Tales.MONTH, Tales.LOG, "", "lands 6;train 5 0 0 24;train 0 5 11 1;clerk 5 0;"
            + "permit 5;needs 0 0;needs 0 1;needs 0 2;needs 0 3;needs 0 4;", "wait 0 24;".repeat(13), "seen 5 0;seen 0 99;"};
        int[] sorts = {0, 0, 1, 2, 1, 0, 1, 2};
        int which = random.nextInt(tales.length + 2);
        StringBuilder text = new StringBuilder();
        for (int i = 0; i < 60; i++) {
            text.append(words[random.nextInt(words.length)]);
        }
        boolean tale = which < tales.length;
        int at = random.nextInt(3) - 1;
        int sort = tale ? sorts[which] : random.nextInt(3);
        String told = tale ? tales[which] : text.toString();
        check.same("text", Tape.tell(x, told, sort, at), Tape.tell(y, told, sort, at));
    }
}
