import java.lang.reflect.Constructor;
import java.lang.reflect.Field;
import java.lang.reflect.Method;
import java.lang.reflect.Modifier;
import java.nio.file.Files;
import java.nio.file.Path;
import java.util.ArrayList;
import java.util.Arrays;
import java.util.HashSet;
import java.util.List;
import java.util.Set;
import java.util.TreeSet;
import java.util.regex.Matcher;
import java.util.regex.Pattern;

/** The public face, as the document writes it and nothing beside it, and what of LANGUAGE.md can be read off the source. */
public final class FaceTest {
    private static final Checks IT = new Checks("face");
    private static final Path DOCUMENT = Path.of("../shared/DOC.md"), SOURCE = Path.of("src/main/java/AcresPaid.java");

    public static void main(String[] args) throws Exception {
        Set<String> said = new TreeSet<>();
        Matcher m = Pattern.compile("    public (int|long) (\\w+)\\((.*)\\);").matcher(Files.readString(DOCUMENT));
        while (m.find()) {
            StringBuilder types = new StringBuilder();
            for (String p : m.group(3).isEmpty() ? new String[0] : m.group(3).split(", ")) types.append(p.split(" ")[0]).append(' ');
            said.add(m.group(1) + " " + m.group(2) + " " + types);
        }
        IT.due("methods that the document tells", 51, said.size());
        Set<String> names = new HashSet<>();
        Set<String> there = new TreeSet<>();
        for (Method method : AcresPaid.class.getDeclaredMethods()) {
            if (Modifier.isPrivate(method.getModifiers())) continue;
            StringBuilder types = new StringBuilder();
            for (Class<?> p : method.getParameterTypes()) types.append(p.getName()).append(' ');
            there.add(method.getReturnType().getName() + " " + method.getName() + " " + types);
            names.add(method.getName());
            IT.due(method + " is public and no more", Modifier.PUBLIC, method.getModifiers());
        }
        IT.due("methods beside the document's: " + minus(there, said), 0, minus(there, said).size());
        IT.due("methods that lack: " + minus(said, there), 0, minus(said, there).size());
        constants();
        insides(names);
        source();
        IT.end();
    }

    private static Set<String> minus(Set<String> a, Set<String> b) {
        Set<String> rest = new TreeSet<>(a);
        rest.removeAll(b);
        return rest;
    }

    private static void constants() throws Exception {
        List<String> visible = new ArrayList<>();
        for (Field f : AcresPaid.class.getDeclaredFields()) {
            if (Modifier.isPrivate(f.getModifiers())) continue;
            IT.due(f + " is a constant", Modifier.PUBLIC | Modifier.STATIC | Modifier.FINAL, f.getModifiers());
            visible.add(f.getName() + " " + f.getInt(null));
        }
        visible.sort(null);
        List<String> want = Arrays.asList("BAD -1", "BIG -4", "FULL -3", "NOT -2", "VOID -2000000000");
        IT.due("constants: " + visible, 1, visible.equals(want) ? 1 : 0);
        Constructor<?>[] constructors = AcresPaid.class.getDeclaredConstructors();
        IT.due("constructors", 1, constructors.length);
        IT.due("the constructor is public", Modifier.PUBLIC, constructors[0].getModifiers());
        IT.due("the class is public and final", Modifier.PUBLIC | Modifier.FINAL, AcresPaid.class.getModifiers());
    }

    private static void insides(Set<String> publicNames) {
        Class<?>[] insides = AcresPaid.class.getDeclaredClasses();
        IT.due("some twelve classes", 1, insides.length <= 11 ? 1 : 0);
        for (Class<?> c : insides) {
            IT.due(c + " is static", 1, Modifier.isStatic(c.getModifiers()) ? 1 : 0);
            IT.due(c + " is not public or protected", 0, c.getModifiers() & (Modifier.PUBLIC | Modifier.PROTECTED));
            int fields = 0;
            for (Field f : c.getDeclaredFields()) fields += Modifier.isStatic(f.getModifiers()) ? 0 : 1;
            IT.due(c + " has some twenty fields", 1, fields <= 20 ? 1 : 0);
            for (Method method : c.getDeclaredMethods()) {
                IT.due(method + " bears no public method's name", 0, publicNames.contains(method.getName()) ? 1 : 0);
                IT.due(method + " takes at most seven", 1, method.getParameterCount() <= 7 ? 1 : 0);
            }
        }
    }

    private static void source() throws Exception {
        String text = Files.readString(SOURCE);
        String[] banned = {"\\bthrow\\b", "\\bthrows\\b", "\\btry\\b", "\\bcatch\\b", "\\bsynchronized\\b", "\\bassert\\b", "->", "::",
            "\\bpackage\\b", "\\bRandom\\b", "\\bSystem\\.(?!arraycopy)", "\\bThread\\b", "Exact\\b", "\\bString\\.", "[^\\x00-\\x7F]"};
        for (String b : banned) {
            Matcher m = Pattern.compile(b).matcher(text.replaceAll("(?m)^\\s*(//|/\\*\\*).*$", ""));
            IT.due("no " + b + " in the source", 0, m.find() ? 1 : 0);
        }
        Matcher imports = Pattern.compile("(?m)^import (.*);$").matcher(text);
        while (imports.find()) IT.due("import " + imports.group(1), 1, imports.group(1).equals("java.util.Arrays") ? 1 : 0);
        int start = 0;
        String[] lines = text.split("\n");
        for (int i = 0; i < lines.length; i++) {
            if (lines[i].matches(" {4,8}\\S.*\\) \\{")) start = i;
            if (lines[i].matches(" {4,8}\\}")) IT.due("method at line " + (start + 1) + " is short", 1, i - start <= 60 ? 1 : 0);
        }
    }
}
