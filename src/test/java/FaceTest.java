import java.lang.reflect.Constructor;
import java.lang.reflect.Field;
import java.lang.reflect.Method;
import java.lang.reflect.Modifier;
import java.nio.file.Files;
import java.util.Arrays;
import java.util.TreeSet;
import java.util.regex.Matcher;
import java.util.regex.Pattern;
import java.util.stream.Collectors;

/** The public face: what ../shared/DOC.md shows of it, and no more (LANGUAGE.md, rule 1). */
public final class FaceTest {
    public static void main(String[] args) throws Exception {
        TreeSet<String> shown = shown();
        TreeSet<String> found = found();
        Check.due("members shown", shown.size(), 28);
        for (String member : shown) {
            Check.due("there is no " + member, found.contains(member), true);
        }
        for (String member : found) {
            Check.due("the document shows no " + member, shown.contains(member), true);
        }
        Check.due("final", Modifier.isFinal(HailClub.class.getModifiers()), true);
        Check.due("public", Modifier.isPublic(HailClub.class.getModifiers()), true);
        Check.due("interfaces", HailClub.class.getInterfaces().length, 0);
        Check.due("a class above", HailClub.class.getSuperclass() == Object.class, true);
        for (Class<?> inside : HailClub.class.getDeclaredClasses()) {
            int how = inside.getModifiers();
            Check.due(inside + " is static", Modifier.isStatic(how), true);
            Check.due(inside + " is for others", Modifier.isPublic(how) || Modifier.isProtected(how), false);
        }
        Check.close("FaceTest");
    }

    private static TreeSet<String> shown() throws Exception {
        String all = Files.readString(Document.PATH);
        String block = all.substring(all.indexOf("```java"), all.indexOf("## Terms"));
        TreeSet<String> members = new TreeSet<>();
        Matcher method = Pattern.compile("public ((?:\\w+ )?\\w+)\\(([^)]*)\\);").matcher(block);
        while (method.find()) {
            members.add(method.group(1) + "(" + method.group(2).replaceAll("(\\w+) \\w+", "$1") + ")");
        }
        Matcher constant = Pattern.compile("public static final (\\w+ \\w+) =").matcher(block);
        while (constant.find()) {
            members.add("constant " + constant.group(1));
        }
        return members;
    }

    private static TreeSet<String> found() {
        TreeSet<String> members = new TreeSet<>();
        for (Method m : HailClub.class.getDeclaredMethods()) {
            if (!Modifier.isPrivate(m.getModifiers()) && !m.isSynthetic()) {
                members.add(m.getReturnType() + " " + m.getName() + types(m.getParameterTypes()));
            }
        }
        for (Constructor<?> c : HailClub.class.getDeclaredConstructors()) {
            if (!Modifier.isPrivate(c.getModifiers()) && !c.isSynthetic()) {
                members.add("HailClub" + types(c.getParameterTypes()));
            }
        }
        for (Field f : HailClub.class.getDeclaredFields()) {
            if (!Modifier.isPrivate(f.getModifiers()) && !f.isSynthetic()) {
                boolean constant = Modifier.isStatic(f.getModifiers()) && Modifier.isFinal(f.getModifiers());
                members.add((constant ? "constant " : "field ") + f.getType() + " " + f.getName());
            }
        }
        return members;
    }

    private static String types(Class<?>[] types) {
        return Arrays.stream(types).map(Class::getName).collect(Collectors.joining(", ", "(", ")"));
    }
}
