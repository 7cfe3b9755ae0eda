import java.io.IOException;
import java.lang.reflect.Constructor;
import java.lang.reflect.Field;
import java.lang.reflect.Method;
import java.lang.reflect.Modifier;
import java.nio.file.Files;
import java.nio.file.Path;
import java.util.ArrayList;
import java.util.List;
import java.util.Set;
import java.util.TreeSet;
import java.util.regex.Matcher;
import java.util.regex.Pattern;

/** The face of the document, and those rules of LANGUAGE.md that can be seen from outside. */
public final class LanguageTest {
    private static final Bench BENCH = new Bench("LanguageTest");
    private static final String FACE = "[assemble(), bad(), clear(), compile(), count(int), end(int), fault(int),"
            + " feed(int,int,int,int,int), insn(int,int), out(int), packet(), plainer(), put(int,int,int,int), ran(int), run(),"
            + " why(), write(int)]";
    private static final Set<Class<?>> CONSTANTS = Set.of(int.class, long.class, boolean.class, char.class, String.class,
            int[].class, long[].class, char[].class, byte[].class);

    public static void main(String[] args) throws IOException {
        face();
        classes();
        words(Files.readString(Path.of("src/main/java/BerkeleySieve.java")));
        BENCH.finish();
    }

    private static void face() {
        Set<String> found = new TreeSet<>();
        for (Method method : BerkeleySieve.class.getDeclaredMethods()) {
            if (!Modifier.isPrivate(method.getModifiers())) {
                BENCH.due(method + " is public alone", method.getModifiers(), Modifier.PUBLIC);
                Class<?> answer = method.getName().equals("end") ? boolean.class : int.class;
                BENCH.due("answer of " + method, method.getReturnType() == answer, true);
                List<String> types = new ArrayList<>();
                for (Class<?> type : method.getParameterTypes()) {
                    types.add(type.getName());
                }
                found.add(method.getName() + "(" + String.join(",", types) + ")");
            }
        }
        BENCH.due("the public methods", found.toString(), FACE);
        Constructor<?>[] constructors = BerkeleySieve.class.getDeclaredConstructors();
        BENCH.due("constructors", constructors.length, 1);
        BENCH.due("its parameters", constructors[0].getParameterCount(), 0);
        BENCH.due("it is public", Modifier.isPublic(constructors[0].getModifiers()), true);
        BENCH.due("the class", BerkeleySieve.class.getModifiers(), Modifier.PUBLIC | Modifier.FINAL);
        for (Field field : BerkeleySieve.class.getDeclaredFields()) {
            boolean isPrivate = Modifier.isPrivate(field.getModifiers());
            BENCH.due(field + " is private", isPrivate, !field.getName().equals("NONE"));
        }
    }

    private static void classes() {
        List<Class<?>> all = new ArrayList<>(List.of(BerkeleySieve.class.getDeclaredClasses()));
        all.add(BerkeleySieve.class);
        BENCH.due("at most twelve classes", all.size() <= 12, true);
        Set<String> names = new TreeSet<>();
        for (Method method : BerkeleySieve.class.getMethods()) {
            if (method.getDeclaringClass() == BerkeleySieve.class) {
                names.add(method.getName());
            }
        }
        for (Class<?> one : all) {
            int fields = 0;
            for (Field field : one.getDeclaredFields()) {
                boolean isStatic = Modifier.isStatic(field.getModifiers());
                fields += isStatic ? 0 : 1;
                boolean constant = Modifier.isFinal(field.getModifiers()) && CONSTANTS.contains(field.getType());
                BENCH.due(field + " is of an object, or a constant", !isStatic || constant, true);
            }
            BENCH.due("at most twenty fields in " + one, fields <= 20, true);
            if (one != BerkeleySieve.class) {
                BENCH.due(one + " is static", Modifier.isStatic(one.getModifiers()), true);
                BENCH.due(one + " is not public", Modifier.isPublic(one.getModifiers()), false);
            }
            for (Method method : one.getDeclaredMethods()) {
                BENCH.due(method + " has at most seven parameters", method.getParameterCount() <= 7, true);
                boolean hidden = one != BerkeleySieve.class || Modifier.isPrivate(method.getModifiers());
                BENCH.due(method + " has a name of its own", !hidden || !names.contains(method.getName()), true);
            }
        }
    }

    private static void words(String source) {
        String code = source.replaceAll("(?s)/\\*.*?\\*/", "").replaceAll("//[^\n]*", "");
        String bare = code.replaceAll("'(\\\\.|[^'])'", "' '").replaceAll("\"(\\\\.|[^\"\\\\])*\"", "\"\"");
        for (String word : new String[] {"throw", "throws", "try", "catch", "finally", "synchronized", "assert", "package",
                "protected", "volatile", "native", "Object", "Exception", "Thread", "hashCode"}) {
            BENCH.due("no " + word, Pattern.compile("\\b" + word + "\\b").matcher(bare).find(), false);
        }
        // An arrow is fine in a switch alone.
        String plain = bare.replaceAll("\\b(case\\b[^>\n]*|default\\s*)->", "").replace("@Override", "");
        for (String signs : new String[] {"->", "::", "static {", "@", "\"\" +", "+ \"\""}) {
            BENCH.due("no " + signs, plain.contains(signs), false);
        }
        Matcher matcher = Pattern.compile("(?m)^import (.*);$").matcher(bare);
        while (matcher.find()) {
            BENCH.due("import " + matcher.group(1), matcher.group(1).matches("java\\.util\\.(ArrayList|List|Arrays|Iterator)"), true);
        }
        matcher = Pattern.compile("\\b(System|Math|Integer|Long|Arrays|Character|Byte|Short)\\s*\\.\\s*(\\w+)").matcher(bare);
        while (matcher.find()) {
            boolean fine = switch (matcher.group(1)) {
                case "System" -> matcher.group(2).equals("arraycopy");
                case "Arrays" -> matcher.group(2).matches("copyOf|copyOfRange|fill");
                case "Math", "Integer", "Long" -> !matcher.group(2).endsWith("Exact") && !matcher.group(2).equals("random");
                default -> false;
            };
            BENCH.due("the library: " + matcher.group(), fine, true);
        }
        lengths(code);
    }

    private static void lengths(String code) {
        int depth = 0;
        int begin = 0;
        int line = 0;
        int longest = 0;
        for (String text : code.split("\n", -1)) {
            line++;
            boolean method = text.matches(" +[\\w\\[\\] ]+\\(.*\\) \\{") && !text.matches(" +(if|for|while|switch|else|} else).*");
            begin = method ? line : begin;
            depth += text.chars().filter(sign -> sign == '{').count() - text.chars().filter(sign -> sign == '}').count();
            if (text.matches(" {4}( {4})?}")) {
                longest = Math.max(longest, begin == 0 ? 0 : line - begin + 1);
                begin = 0;
            }
        }
        BENCH.due("brackets that fit", depth, 0);
        BENCH.due("the longest method, of " + longest + " lines", longest > 20 && longest <= 60, true);
    }
}
