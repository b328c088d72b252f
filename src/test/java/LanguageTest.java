import java.io.IOException;
import java.lang.management.ManagementFactory;
import java.lang.reflect.Field;
import java.lang.reflect.Member;
import java.lang.reflect.Method;
import java.lang.reflect.Modifier;
import java.nio.file.Files;
import java.nio.file.Path;
import java.util.ArrayList;
import java.util.Arrays;
import java.util.HashSet;
import java.util.List;
import java.util.Set;
import java.util.TreeSet;
import java.util.regex.Matcher;
import java.util.regex.Pattern;

/**
 * What ../shared/LANGUAGE.md asks of src/main/java/PointOrShoot.java, as far as a plain look at its words, its
 * members and its room can tell; and that no arguments make it throw. Runs in the project's own folder.
 */
public final class LanguageTest {
    private static int wrong = 0;

    private static void due(String what, boolean holds) {
        if (!holds) {
            wrong++;
            System.out.println("not so: " + what);
        }
    }

    public static void main(String[] args) throws IOException {
        String source = Files.readString(Path.of("src/main/java/PointOrShoot.java"));
        String code = source.replaceAll("(?s)/\\*.*?\\*/", "").replaceAll("//[^\n]*", "");
        words(code);
        lengths(code);
        face();
        neverThrows();
        room();
        System.out.println(wrong == 0 ? "the language holds" : wrong + " things are wrong");
        if (wrong != 0) {
            System.exit(1);
        }
    }

    private static void words(String code) {
        String[] never = {"throw", "throws", "try", "catch", "finally", "synchronized", "assert", "package", "Object", "System\\.out",
            "\\w+Exact", "MAX_VALUE", "MIN_VALUE", "hashCode", "Thread", "Random", "protected", "volatile", "transient", "native", "strictfp"};
        for (String word : never) {
            due("no word " + word, !Pattern.compile("\\b" + word + "\\b").matcher(code).find());
        }
        due("no lambda", !code.contains("->"));
        due("no method reference", !code.contains("::"));
        Set<String> imports = new TreeSet<>();
        Matcher matcher = Pattern.compile("import ([^;]*);").matcher(code);
        while (matcher.find()) {
            imports.add(matcher.group(1));
        }
        Set<String> mayImport = Set.of("java.util.Arrays", "java.util.ArrayList", "java.util.List", "java.util.Iterator");
        due("imports: " + imports, mayImport.containsAll(imports));
        Matcher calls = Pattern.compile("\\b(Arrays|System)\\.(\\w+)").matcher(code);
        Set<String> mayCall = Set.of("Arrays.fill", "Arrays.copyOf", "Arrays.copyOfRange", "System.arraycopy");
        while (calls.find()) {
            due("of the library: " + calls.group(), mayCall.contains(calls.group()));
        }
        Matcher statics = Pattern.compile("\\bstatic ([\\w\\[\\]]+ )*[\\w\\[\\]]+ \\w+ =").matcher(code);
        while (statics.find()) {
            due("final: " + statics.group(), statics.group().contains("final "));
        }
    }

    private static void lengths(String code) {
        Matcher heads = Pattern.compile("\n( {4}| {8})(public |private )?(static )?[\\w\\[\\]]+ ?\\w*\\(([^)]*)\\) \\{\n").matcher(code);
        int methods = 0;
        while (heads.find()) {
            methods++;
            int end = code.indexOf("\n" + heads.group(1) + "}\n", heads.end() - 1);
            due("an end of " + heads.group(), end >= 0);
            String body = code.substring(heads.end(), Math.max(heads.end(), end));
            due("at most 60 lines: " + heads.group(), body.split("\n").length <= 60);
            due("at most 7 parameters: " + heads.group(), heads.group(4).split(",").length <= 7);
        }
        due("methods were found: " + methods, methods > 100);
    }

    private static void face() {
        Set<String> due = new HashSet<>(List.of("far", "feed", "law", "rule", "ground", "turn", "points", "chance", "best", "likely",
            "goFor", "toThrow", "by", "lastBall", "game", "match", "drawn", "log", "wrong", "shot", "book", "fits", "roll", "lay",
            "ball", "pig", "gone", "measured", "toShoot", "seed", "keep", "undo", "check", "count"));
        Set<String> seen = new HashSet<>();
        for (Method method : PointOrShoot.class.getDeclaredMethods()) {
            if (Modifier.isPublic(method.getModifiers())) {
                due("once: " + method, seen.add(method.getName()));
            } else {
                isPrivate(method);
                due("a name of its own: " + method, !due.contains(method.getName()));
            }
        }
        due("the public methods", seen.equals(due));
        for (Field field : PointOrShoot.class.getDeclaredFields()) {
            if (!field.getName().equals("NONE")) {
                isPrivate(field);
            }
        }
        due("a constructor", PointOrShoot.class.getDeclaredConstructors().length == 1);
        due("final", Modifier.isFinal(PointOrShoot.class.getModifiers()));
        List<Class<?>> classes = new ArrayList<>(Arrays.asList(PointOrShoot.class.getDeclaredClasses()));
        classes.add(PointOrShoot.class);
        due("at most twelve classes: " + classes.size(), classes.size() <= 12);
        for (Class<?> one : classes) {
            due("static " + one, one == PointOrShoot.class || Modifier.isStatic(one.getModifiers()));
            int fields = 0;
            for (Field field : one.getDeclaredFields()) {
                boolean isStatic = Modifier.isStatic(field.getModifiers());
                fields += isStatic ? 0 : 1;
                due("final " + field, !isStatic || Modifier.isFinal(field.getModifiers()));
            }
            due("at most twenty fields: " + one + " " + fields, fields <= 20);
            for (Method method : one.getDeclaredMethods()) {
                due("no name of the face: " + method, one == PointOrShoot.class || !due.contains(method.getName()));
            }
        }
    }

    private static void isPrivate(Member member) {
        due("private: " + member, Modifier.isPrivate(member.getModifiers()));
    }

    private static long state = 7;

    private static int draw(int n) {
        state = state * 6364136223846793005L + 1442695040888963407L;
        return (int) ((state >>> 33) % n);
    }

    private static int wild() {
        int[] some = {Integer.MIN_VALUE, Integer.MAX_VALUE, -1, 0, 1, 2, 3, 6, 7, 8, 12, 13, 20, 30000, 10000, 1000, 11100, 20001,
            50, 99, 100, 163, 240, 260, 65535, 65536, 1 << 30, -(1 << 30), 0x40000000 + 5, -7};
        return draw(3) == 0 ? draw(1 << 30) * 4 + draw(4) : draw(2) == 0 ? draw(8) : some[draw(some.length)];
    }

    /** All methods with all sorts of arguments, far beyond the 512th call, too. */
    private static void neverThrows() {
        Method[] methods = PointOrShoot.class.getDeclaredMethods();
        Arrays.sort(methods, (a, b) -> a.getName().compareTo(b.getName()));
        for (int object = 0; object < 20; object++) {
            PointOrShoot x = new PointOrShoot();
            for (int call = 0; call < 3000; call++) {
                if (draw(40) == 0) {
                    feedText(x, draw(2) == 0);
                }
                Method method = methods[draw(methods.length)];
                if (Modifier.isPublic(method.getModifiers())) {
                    callWildly(x, method);
                }
            }
        }
    }

    private static void callWildly(PointOrShoot x, Method method) {
        Class<?>[] types = method.getParameterTypes();
        Object[] arguments = new Object[types.length];
        for (int i = 0; i < types.length; i++) {
            arguments[i] = types[i] == boolean.class ? (Object) (draw(2) == 0) : (Object) wild();
        }
        try {
            method.invoke(x, arguments);
        } catch (ReflectiveOperationException thrown) {
            due("no throw of " + method.getName() + Arrays.toString(arguments) + ": " + thrown.getCause(), false);
        }
    }

    private static void feedText(PointOrShoot x, boolean isLaw) {
        String text = isLaw ? "a5-s(i=i);h8/[o-u](o>u|l=1);h7(!(f>8));k3(m<n)" : "r2(n<2&u>v);r1(i=i)";
        Due.feed(x, text);
        int answer = isLaw ? x.law(text.length()) : x.rule(draw(4), text.length());
        due("text " + answer, answer > 0);
    }

    private static PointOrShoot made;

    /** 512 calls share 7.3 million elements: a new object takes its share at most, other calls make nothing. */
    private static void room() {
        com.sun.management.ThreadMXBean threads = (com.sun.management.ThreadMXBean) ManagementFactory.getThreadMXBean();
        long id = Thread.currentThread().getId();
        made = new PointOrShoot();
        useAll(made);
        long before = threads.getThreadAllocatedBytes(id);
        made = new PointOrShoot();
        long forOne = threads.getThreadAllocatedBytes(id) - before;
        due("bytes of a new object: " + forOne, forOne < 8 * 7300000 / 512);
        feedText(made, true);
        feedText(made, false);
        before = threads.getThreadAllocatedBytes(id);
        for (int i = 0; i < 20; i++) {
            useAll(made);
        }
        long forAll = threads.getThreadAllocatedBytes(id) - before;
        due("bytes of 300 calls: " + forAll, forAll < 2000);
    }

    private static void useAll(PointOrShoot x) {
        x.far(9);
        x.feed(1, 2, 3, 4, 5);
        x.law(5);
        x.feed(1, 2, 3, 4, 5);
        x.rule(3, 5);
        x.best(30000, 30000, 0, 0);
        x.likely(30000, 30000, 0, 1);
        x.goFor(30000, 30000, 0, 1, 0);
        x.toThrow(1, 1);
        x.by(-1, -1, 30000, 30000, 0, 1);
        x.game(0);
        x.match(0, 0, 0);
        x.drawn(-1, -1, 30000, 30000, 0);
        x.wrong(0, 2);
        x.shot(7, true);
        x.fits(5, 1, 6, 0);
        x.lay(3, 3, 0);
        x.ball(1, 2, 3);
        x.toShoot(0);
        x.keep();
        x.undo();
    }
}
