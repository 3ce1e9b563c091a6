import java.lang.reflect.Constructor;
import java.lang.reflect.Field;
import java.lang.reflect.Method;
import java.lang.reflect.Modifier;
import java.nio.file.Files;
import java.nio.file.Path;
import java.util.ArrayList;
import java.util.Arrays;
import java.util.List;
import java.util.Set;
import java.util.TreeSet;
import java.util.regex.Matcher;
import java.util.regex.Pattern;

/** The public face, and the rules of the language that can be seen in the class and its source. */
public final class FaceTest {
    private static final List<String> CONSTANT_TYPES = List.of("int", "long", "boolean", "char", "[I", "[J", "[C", "[B",
        "java.lang.String");
    private static final List<String> FORBIDDEN = List.of("throw", "throws", "try", "catch", "synchronized", "assert", "package",
        "Double", "Float", "Object", "instanceof", "native", "strictfp", "volatile", "enum", "record", "var");
    private static final Set<String> LIBRARY = Set.of("Math.max", "Math.min", "Math.abs", "Arrays.fill", "System.arraycopy",
        "Long.numberOfLeadingZeros", "Long.numberOfTrailingZeros");
    private static final String FACE = "row(int,int)int put(int,int,long)int get(int,int)long grid(int,int,int)int "
        + "tray(int,int)int setTray(int,int,int)int "
        + "cell(int,int,int)long raise(int,int,int,long,boolean)long move(int,int,int,int,int)int net(int,int)int "
        + "fish(int,int,int,int)int putIn(int,int,int)int letOut(int,int,int)int pass(int,int,int,int,int)int passed()int "
        + "mesh(int,int)int says(int,int,int)long grams(int,int)int card()int field(int,int)long setField(int,int,long)int "
        + "along(int)int copy(int,boolean)int match(int,int)int told(int,int)int as(int,int)int reading(int,int,boolean)long "
        + "test(int,int,int,int,boolean)int probes(int,int)int trust(int,int,boolean)int reason(int,int)int value(int)long "
        + "wish(int,int,long)int setting(int)long minute()int trays(int,int)int eggs(int,int,int,int,boolean)int "
        + "warm(int,int)int swim(int)long died(int,int,int)long treat(int,int)int sell(int,int)long shift(int,int,int)long "
        + "day(int)int tank(int,int)long kin(int,int,boolean)long step(int,int,int,int,int,long)int wipe(int)int act(int)int "
        + "answer()long acted(int)int trace(int)int failed()int count(int)int";
    private static int wrong = 0;

    private static void due(boolean is, String what) {
        if (is) return;
        wrong++;
        System.out.println(what);
    }

    public static void main(String[] args) throws Exception {
        face();
        classes();
        source(args.length > 0 ? args[0] : "src/main/java/HatchHouse.java");
        if (wrong > 0) System.exit(1);
    }

    private static void face() throws Exception {
        Class<?> c = HatchHouse.class;
        due(Modifier.isPublic(c.getModifiers()) && Modifier.isFinal(c.getModifiers()), "the class is public and final");
        Set<String> found = new TreeSet<>();
        Set<String> names = new TreeSet<>();
        for (Method m : c.getDeclaredMethods()) {
            if (Modifier.isPrivate(m.getModifiers()) || m.isSynthetic()) continue;
            String types = String.join(",", Arrays.stream(m.getParameterTypes()).map(Class::getName).toArray(String[]::new));
            found.add(m.getName() + "(" + types + ")" + m.getReturnType().getName());
            names.add(m.getName());
            due(Modifier.isPublic(m.getModifiers()) && !Modifier.isStatic(m.getModifiers()), m + " is public");
        }
        due(found.equals(new TreeSet<>(List.of(FACE.split(" ")))), "the methods are those of the document: " + found);
        due(found.size() == 54, "there are 54 of them");
        for (Class<?> in : withInner()) {
            for (Method m : in.getDeclaredMethods()) {
                boolean ofTheFace = in == c && Modifier.isPublic(m.getModifiers());
                due(ofTheFace || !names.contains(m.getName()), m + " bears the name of a public one");
            }
        }
        for (Constructor<?> k : c.getDeclaredConstructors()) {
            due(Modifier.isPublic(k.getModifiers()) && k.getParameterCount() == 0, k + " is the constructor");
        }
        Set<String> constants = new TreeSet<>();
        for (Field f : c.getDeclaredFields()) {
            if (Modifier.isPrivate(f.getModifiers())) continue;
            due(Modifier.toString(f.getModifiers()).equals("public static final") && f.getType() == int.class, f
                + " is a constant");
            constants.add(f.getName() + f.getInt(null));
        }
        due(constants.equals(Set.of("NONE-1", "BAD-1", "FULL-2", "LACK-3")), "the constants are those of the document: "
            + constants);
    }

    private static List<Class<?>> withInner() {
        List<Class<?>> all = new ArrayList<>(List.of(HatchHouse.class.getDeclaredClasses()));
        all.add(HatchHouse.class);
        return all;
    }

    private static void classes() {
        due(withInner().size() <= 12, "twelve classes at most");
        for (Class<?> c : withInner()) {
            due(c == HatchHouse.class || Modifier.isStatic(c.getModifiers()), c + " is static");
            int fields = 0;
            for (Field f : c.getDeclaredFields()) {
                if (Modifier.isStatic(f.getModifiers())) {
                    due(Modifier.isFinal(f.getModifiers()), f + " is final");
                    due(CONSTANT_TYPES.contains(f.getType().getName()), f + " is of a type for constants");
                } else fields++;
            }
            due(fields <= 20, c + " has twenty fields at most");
            for (Method m : c.getDeclaredMethods()) due(m.getParameterCount() <= 7, m + " takes seven numbers at most");
        }
    }

    private static void source(String path) throws Exception {
        String text = Files.readString(Path.of(path));
        String code = text.replaceAll("(?s)/\\*.*?\\*/", "").replaceAll("//[^\n]*", "");
        for (String word : FORBIDDEN) {
            due(!Pattern.compile("\\b" + word + "\\b").matcher(code).find(), "the source has no " + word);
        }
        for (String sign : List.of("->", "::", "\"", "@")) due(!code.contains(sign), "the source has no " + sign);
        Matcher imports = Pattern.compile("import [^;]*;").matcher(code);
        while (imports.find()) due(imports.group().equals("import java.util.Arrays;"), imports.group());
        String library = "\\b(Math|Arrays|System|Integer|Long|Short|Byte|Character)\\.(\\w+)";
        Matcher calls = Pattern.compile(library).matcher(code);
        while (calls.find()) due(LIBRARY.contains(calls.group()), calls.group() + " is of the library that is left");
        due(text.chars().allMatch(ch -> ch < 128), "the source is plain");
        methodsAreShort(code);
    }

    private static void methodsAreShort(String code) {
        String[] lines = code.split("\n");
        int from = -1;
        String end = "";
        for (int i = 0; i < lines.length; i++) {
            if (from < 0 && lines[i].matches("( {4}| {8})\\S.*\\) \\{")) {
                from = i;
                end = lines[i].replaceAll("\\S.*", "") + "}";
            } else if (from >= 0 && lines[i].equals(end)) {
                due(i - from <= 60, "a method of more than sixty lines: " + lines[from].trim());
                from = -1;
            }
        }
    }
}
