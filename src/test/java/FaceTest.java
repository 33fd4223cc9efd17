import java.lang.reflect.Array;
import java.lang.reflect.Field;
import java.lang.reflect.Method;
import java.lang.reflect.Modifier;
import java.nio.file.Files;
import java.nio.file.Path;
import java.util.ArrayList;
import java.util.IdentityHashMap;
import java.util.List;
import java.util.Map;
import java.util.NoSuchElementException;
import java.util.Set;
import java.util.TreeSet;
import java.util.regex.Matcher;
import java.util.regex.Pattern;

/** The face as the document has it, the rules of LANGUAGE.md that can be seen from outside, and how much room an object takes. */
public final class FaceTest {
    private static final String[] FACE = {"int feed(int,int,int,int,int)", "int text(int)", "int count(int)", "int sale(int,int)", "int resold(int,int)",
        "int kin(int,int)", "int like(int,int)", "int band(int,int)", "int assist(int,int)", "int share(int,int)", "int rest(int)", "long own(int)",
        "long by(int,int)", "int base(int,int)", "long worth(int)", "int method(int)", "int why(int,int)", "long test(int,int)", "int passes(int)",
        "int prices(int,int)", "int needs(int)", "int rests(int)", "long turned(int)", "long due(int)", "long dues()", "int all(int)", "int report(int)",
        "int price(int,int)", "boolean bind(int,boolean)", "boolean relate(int,int,boolean)", "int rule(int,int)", "int turn()",
        "int resell(int,int,int,int)", "int spread(int,int)", "int lessen(int,int)", "int undo()", "boolean keep(int,boolean)"};

    private static final String[] BANNED = {"->", "::", "Exact", "synchronized", "assert ", "finally", "try ", "catch ", "import java.util.*", "System.out",
        "static {", " throws IllegalState", ".getMessage", "NaN", "double", "float", "hashCode", "toString", ".equals("};

    private static int wrong = 0;

    public static void main(String[] args) throws Exception {
        face();
        language();
        room();
        System.out.println(wrong == 0 ? "the face, the language, the room are as due" : wrong + " things are not as due");
        if (wrong != 0) System.exit(1);
    }

    private static void due(boolean is, String what) {
        if (is) return;
        wrong++;
        System.out.println("not so: " + what);
    }

    private static void face() throws Exception {
        Class<?> c = WorthLadder.class;
        due(Modifier.isFinal(c.getModifiers()) && Modifier.isPublic(c.getModifiers()), "public and final");
        Set<String> want = new TreeSet<>(List.of(FACE));
        Set<String> got = new TreeSet<>();
        Set<String> names = new TreeSet<>();
        for (Method m : c.getDeclaredMethods()) {
            if (!Modifier.isPublic(m.getModifiers())) continue;
            StringBuilder t = new StringBuilder(m.getReturnType() + " " + m.getName() + "(");
            for (Class<?> p : m.getParameterTypes()) t.append(t.charAt(t.length() - 1) == '(' ? "" : ",").append(p);
            got.add(t + ")");
            names.add(m.getName());
            due(!Modifier.isStatic(m.getModifiers()), m + " is static");
            List<Class<?>> thrown = m.getName().equals("sale") ? List.of(NoSuchElementException.class) : List.of();
            due(List.of(m.getExceptionTypes()).equals(thrown), m + " tells of what it throws");
        }
        due(want.equals(got), "the face is " + got);
        due(c.getConstructors().length == 1 && c.getDeclaredConstructors().length == 1, "one constructor");
        due(c.getDeclaredConstructors()[0].getExceptionTypes().length == 0, "the constructor tells of nothing that it throws");
        Field none = c.getField("NONE");
        due(none.getType() == int.class && Modifier.isStatic(none.getModifiers()) && Modifier.isFinal(none.getModifiers()) && none.getInt(null) == -1, "NONE");
        due(c.getFields().length == 1 && c.getClasses().length == 0 && c.getInterfaces().length == 0, "no other thing is public");
        for (Field f : c.getDeclaredFields()) {
            due(Modifier.isPrivate(f.getModifiers()) || f.getName().equals("NONE"), f + " is seen from outside");
            due(!Modifier.isStatic(f.getModifiers()) || Modifier.isFinal(f.getModifiers()), f + " is static, not final");
        }
        due(c.getDeclaredClasses().length <= 11, "at most some twelve classes");
        List<Class<?>> all = new ArrayList<>(List.of(c.getDeclaredClasses()));
        all.add(c);
        for (Class<?> k : all) {
            due(k == c || Modifier.isStatic(k.getModifiers()) && !Modifier.isPublic(k.getModifiers()), k + " is static, not public");
            int fields = 0;
            for (Field f : k.getDeclaredFields()) if (!Modifier.isStatic(f.getModifiers())) fields++;
            due(fields <= 20, k + " has " + fields + " fields");
            for (Method m : k.getDeclaredMethods()) {
                boolean isFace = k == c && Modifier.isPublic(m.getModifiers());
                due(isFace || !names.contains(m.getName()), m + " bears the name of a public one");
                due(isFace || k != c || Modifier.isPrivate(m.getModifiers()), m + " is seen from outside");
                due(m.getParameterCount() <= 7, m + " has too many parameters");
            }
        }
    }

    private static void language() throws Exception {
        List<String> lines = Files.readAllLines(Path.of("src/main/java/WorthLadder.java"));
        Pattern start = Pattern.compile("^( {4}| {8})(?:public|private|static|final|void|int|long|boolean|[A-Z]\\w*)[^=;]*\\) (?:throws \\w+ )?\\{$");
        for (int i = 0; i < lines.size(); i++) {
            String code = lines.get(i).replaceAll("//.*|^\\s*/?\\*.*", "");
            for (String b : BANNED) due(!code.contains(b), "line " + (i + 1) + " has " + b);
            due(code.chars().allMatch(s -> s < 127), "line " + (i + 1) + " has another sign");
            Matcher m = start.matcher(lines.get(i));
            if (m.matches()) {
                int end = i;
                while (!lines.get(end).equals(m.group(1) + "}")) end++;
                due(end - i <= 60, "the method of line " + (i + 1) + " has " + (end - i) + " lines");
            }
        }
    }

    private static void room() throws Exception {
        Map<Object, Object> seen = new IdentityHashMap<>();
        long slots = walk(new WorthLadder(), seen);
        System.out.println("a new object: " + seen.size() + " objects and arrays, " + slots + " fields and elements");
        due(seen.size() <= 400, "few objects");
        due(slots <= 6000, "few fields and elements");
    }

    private static long walk(Object o, Map<Object, Object> seen) throws Exception {
        if (o == null || seen.put(o, o) != null) return 0;
        long slots = 0;
        if (o.getClass().isArray()) {
            slots = Array.getLength(o);
            if (!o.getClass().getComponentType().isPrimitive()) for (Object e : (Object[]) o) slots += walk(e, seen);
            return slots;
        }
        for (Field f : o.getClass().getDeclaredFields()) {
            if (Modifier.isStatic(f.getModifiers())) continue;
            slots++;
            f.setAccessible(true);
            if (!f.getType().isPrimitive()) slots += walk(f.get(o), seen);
        }
        return slots;
    }
}
