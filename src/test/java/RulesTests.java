import java.io.IOException;
import java.lang.reflect.Constructor;
import java.lang.reflect.Field;
import java.lang.reflect.InvocationTargetException;
import java.lang.reflect.Method;
import java.lang.reflect.Modifier;
import java.nio.file.Files;
import java.nio.file.Path;
import java.util.ArrayList;
import java.util.List;
import java.util.TreeSet;
import java.util.regex.Matcher;
import java.util.regex.Pattern;

/** The class against those rules of ../shared/LANGUAGE.md that its words or its members show. */
public final class RulesTests {
    private static final Path SOURCE = Path.of("src/main/java/OvensAbove.java");
    private static int wrong = 0;

    public static void main(String[] args) throws IOException {
        face();
        classesInside();
        words();
        neverThrows();
        makesNothing();
        System.out.println(wrong == 0 ? "the rules hold" : wrong + " rules are broken");
        if (wrong != 0) {
            System.exit(1);
        }
    }

    private static void rule(int number, boolean holds, String what) {
        if (!holds) {
            wrong++;
            System.out.println("rule " + number + ": " + what);
        }
    }

    private static void face() {
        TreeSet<String> face = new TreeSet<>(List.of("write(int,long)int", "wipe()int", "fault()int", "tower()int",
            "about(int)int", "kiln(int,int)int", "pot(int,int)int", "open(int,int)int", "damp(int,int)int"));
        face.addAll(List.of("put(int,int)int", "quarter(int)int", "undo()int", "warm(int,int,int)int",
            "then(int,int,int)int", "least(int,int)int", "leastAt(int,int,int)int", "floors(int,int)int"));
        face.addAll(List.of("floorAt(int,int,int)int", "openFor(int,int,int,int)int",
            "gales(int,int,int,int,boolean)long", "cone(int,int,int,int,boolean)int", "uncone()int"));
        face.addAll(List.of("blame(int)int", "owed(int,boolean)int", "keep(int)int", "again(int)int"));
        rule(1, Modifier.isPublic(OvensAbove.class.getModifiers()), "the class is public");
        rule(1, Modifier.isFinal(OvensAbove.class.getModifiers()), "the class is final");
        TreeSet<String> seen = new TreeSet<>();
        TreeSet<String> names = new TreeSet<>();
        for (Method m : OvensAbove.class.getDeclaredMethods()) {
            if (!Modifier.isPrivate(m.getModifiers())) {
                seen.add(signature(m));
                names.add(m.getName());
            }
        }
        rule(1, seen.equals(face), "the methods are " + seen);
        for (Method m : OvensAbove.class.getDeclaredMethods()) {
            rule(1, !Modifier.isPrivate(m.getModifiers()) || !names.contains(m.getName()), "a private " + m.getName());
        }
        TreeSet<String> constants = new TreeSet<>();
        for (Field f : OvensAbove.class.getDeclaredFields()) {
            if (!Modifier.isPrivate(f.getModifiers())) {
                constants.add(f.getName() + (f.getType() == int.class) + f.getModifiers());
            }
        }
        String kind = "true" + (Modifier.PUBLIC | Modifier.STATIC | Modifier.FINAL);
        rule(1, constants.equals(new TreeSet<>(List.of("BAD" + kind, "FULL" + kind, "LATE" + kind, "NONE" + kind,
            "UNKNOWN" + kind))), "the constants are " + constants);
        Constructor<?>[] constructors = OvensAbove.class.getDeclaredConstructors();
        rule(1, constructors.length == 1 && constructors[0].getParameterCount() == 0
            && Modifier.isPublic(constructors[0].getModifiers()), "the constructor");
    }

    private static String signature(Method m) {
        StringBuilder s = new StringBuilder(m.getName()).append('(');
        for (Class<?> c : m.getParameterTypes()) {
            s.append(s.charAt(s.length() - 1) == '(' ? "" : ",").append(c.getName());
        }
        return s.append(')').append(m.getReturnType().getName()).toString();
    }

    private static void classesInside() {
        List<Class<?>> all = new ArrayList<>(List.of(OvensAbove.class.getDeclaredClasses()));
        rule(11, all.size() <= 12, all.size() + " classes inside");
        for (Class<?> c : all) {
            int m = c.getModifiers();
            rule(2, Modifier.isStatic(m), c + " is not static");
            rule(1, !Modifier.isPublic(m) && !Modifier.isProtected(m), c + " is seen from outside");
        }
        all.add(OvensAbove.class);
        for (Class<?> c : all) {
            int fields = 0;
            for (Field f : c.getDeclaredFields()) {
                boolean isStatic = Modifier.isStatic(f.getModifiers());
                rule(5, !isStatic || Modifier.isFinal(f.getModifiers()), f + " is not final");
                fields += isStatic ? 0 : 1;
            }
            rule(11, fields <= 20, c + " has " + fields + " fields");
            for (Method method : c.getDeclaredMethods()) {
                rule(11, method.getParameterCount() <= 7, method + " takes too many");
            }
        }
    }

    private static void words() throws IOException {
        String source = Files.readString(SOURCE);
        String bare = source.replaceAll("(?s)/\\*.*?\\*/", "").replaceAll("//[^\n]*", "").replaceAll("'.'", "' '");
        rule(4, source.chars().allMatch(c -> c < 128), "a sign above 127");
        Matcher word = Pattern.compile("\\b(throw|throws|try|catch|finally|synchronized|assert|import|package|native|"
            + "volatile|transient|strictfp|lambda|var|yield|float|double|equals|hashCode|toString|Exception|Error|"
            + "RuntimeException|Thread|Random|System\\.(?!arraycopy)\\w+|\\w+Exact)\\b|->|::|\"|@").matcher(bare);
        while (word.find()) {
            rule(6, false, "the word " + word.group());
        }
    }

    private static final int[] ODD = {Integer.MIN_VALUE, -1, 0, 1, 2, 4, 5, 9, 10, 64, Integer.MAX_VALUE};

    /** All calls with odd arguments in odd states; a throw of the machine's is told with its call. */
    private static void neverThrows() {
        String[] texts = {"", "K", "K2", "K5S090P030919P120111P410111P420111P000111", "K2P000011"};
        for (String text : texts) {
            OvensAbove x = new OvensAbove();
            for (char c : text.toCharArray()) {
                x.write(1, c);
            }
            x.tower();
            for (int round = 0; round < 2; round++) {
                for (Method m : OvensAbove.class.getMethods()) {
                    if (m.getDeclaringClass() == OvensAbove.class) {
                        callAll(x, m, new Object[m.getParameterCount()], 0);
                    }
                }
            }
        }
    }

    private static void callAll(OvensAbove x, Method m, Object[] with, int at) {
        if (at == with.length) {
            call(x, m, with);
            return;
        }
        Class<?> type = m.getParameterTypes()[at];
        if (type == boolean.class) {
            with[at] = true;
            callAll(x, m, with, at + 1);
            with[at] = false;
            callAll(x, m, with, at + 1);
            return;
        }
        for (int i : ODD) {
            with[at] = type == long.class ? (Object) (long) i : (Object) i;
            callAll(x, m, with, at + 1);
        }
    }

    private static void call(OvensAbove x, Method m, Object[] with) {
        try {
            m.invoke(x, with);
        } catch (InvocationTargetException e) {
            rule(7, false, m.getName() + List.of(with) + " threw " + e.getCause());
        } catch (IllegalAccessException e) {
            rule(1, false, m.getName() + " is not to be called");
        }
    }

    /** The dearest calls use rows that the constructor made: a run of calls makes no objects. */
    private static void makesNothing() throws IOException {
        Matcher made = Pattern.compile("\\bnew\\b").matcher(Files.readString(SOURCE).replaceAll("(?s)/\\*.*?\\*/", "")
            .replaceAll("//[^\n]*", "").replaceAll("(?m)^ *(private |final |static )+[^\n(]*= new [^\n]*$", "")
            .replaceAll("(?ms)^( *)(public |)(OvensAbove|[A-Z]\\w*)\\([^)\n]*\\) \\{.*?^\\1\\}$", ""));
        while (made.find()) {
            rule(12, false, "something is made outside of the constructors");
        }
    }
}
