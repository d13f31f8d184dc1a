import java.lang.reflect.Constructor;
import java.lang.reflect.Field;
import java.lang.reflect.Method;
import java.lang.reflect.Modifier;
import java.nio.charset.StandardCharsets;
import java.nio.file.Files;
import java.nio.file.Path;
import java.util.Set;
import java.util.TreeSet;
import java.util.regex.Matcher;
import java.util.regex.Pattern;

/** The public face of the document, and what can be seen of LANGUAGE.md's rules from outside. */
public final class FaceTest {
    private static final String[] FACE = {
        "int feed(int,int,int,int,int)", "int end(int)", "int load()", "int fault(int)", "int variable(int,int)", "long value(int,int)",
        "int size(int)", "int set(int,int,long)", "int lay(int,long)", "int begin(boolean)", "int drop()", "int step(int)",
        "int state(int)", "int frame(int,int)", "long local(int)", "int code(int,int)", "int write(boolean)", "int out(int)", "int count(int)",
    };

    public static void main(String[] args) throws Exception {
        methods();
        fields();
        constructors();
        inside();
        source();
        Mill.finish();
    }

    private static String told(Method m) {
        StringBuilder s = new StringBuilder(m.getReturnType().getName()).append(' ').append(m.getName()).append('(');
        for (int i = 0; i < m.getParameterCount(); i++) {
            s.append(i > 0 ? "," : "").append(m.getParameterTypes()[i].getName());
        }
        return s.append(')').toString();
    }

    private static void methods() {
        Set<String> due = new TreeSet<>(Set.of(FACE));
        Set<String> got = new TreeSet<>();
        for (Method m : JanusMill.class.getDeclaredMethods()) {
            if (!Modifier.isPrivate(m.getModifiers())) {
                got.add(told(m));
                Mill.due(m + " is public and no static one", m.getModifiers(), Modifier.PUBLIC);
            }
        }
        Mill.due("public methods", got.toString(), due.toString());
        Mill.due("the class", JanusMill.class.getModifiers(), Modifier.PUBLIC | Modifier.FINAL);
    }

    private static void fields() throws Exception {
        String[] names = {"NONE", "RANGE", "STATE", "FULL"};
        for (int i = 0; i < names.length; i++) {
            Field f = JanusMill.class.getDeclaredField(names[i]);
            Mill.due(names[i], f.getInt(null), -1 - i);
            Mill.due(names[i] + "'s modifiers", f.getModifiers(), Modifier.PUBLIC | Modifier.STATIC | Modifier.FINAL);
        }
        for (Field f : JanusMill.class.getDeclaredFields()) {
            Mill.due(f + " is private", Modifier.isPrivate(f.getModifiers()) || Set.of(names).contains(f.getName()));
        }
    }

    private static void constructors() {
        Constructor<?>[] all = JanusMill.class.getDeclaredConstructors();
        Mill.due("constructors", all.length, 1);
        Mill.due("its modifiers", all[0].getModifiers(), Modifier.PUBLIC);
        Mill.due("its parameters", all[0].getParameterCount(), 0);
    }

    private static void inside() {
        Set<String> face = new TreeSet<>();
        for (String f : FACE) {
            face.add(f.substring(f.indexOf(' ') + 1, f.indexOf('(')));
        }
        Class<?>[] inside = JanusMill.class.getDeclaredClasses();
        Mill.due("classes", inside.length <= 12);
        for (Class<?> c : inside) {
            Mill.due(c + " is static", Modifier.isStatic(c.getModifiers()));
            Mill.due(c + " is not to be seen", !Modifier.isPublic(c.getModifiers()) && !Modifier.isProtected(c.getModifiers()));
            int own = 0;
            for (Field f : c.getDeclaredFields()) {
                own += Modifier.isStatic(f.getModifiers()) ? 0 : 1;
                Mill.due(f + " is no static state", !Modifier.isStatic(f.getModifiers()) || Modifier.isFinal(f.getModifiers()));
            }
            Mill.due(c + " has " + own + " fields", own <= 20);
            for (Method m : c.getDeclaredMethods()) {
                Mill.due(m + " has a name of its own", !face.contains(m.getName()));
                Mill.due(m + " has few parameters", m.getParameterCount() <= 7);
            }
        }
        for (Method m : JanusMill.class.getDeclaredMethods()) {
            Mill.due(m + " has a name of its own", !Modifier.isPrivate(m.getModifiers()) || !face.contains(m.getName()));
        }
    }

    private static void source() throws Exception {
        String text = Files.readString(Path.of("src/main/java/JanusMill.java"), StandardCharsets.UTF_8);
        for (char c : text.toCharArray()) {
            Mill.due("a character below 256", c < 256);
        }
        String bare = text.replaceAll("(?s)/\\*.*?\\*/", " ").replaceAll("//[^\n]*", " ").replaceAll("\"[^\"\n]*\"", "\"\"")
                .replaceAll("'(\\\\.|[^'])'", "' '");
        for (String word : new String[] {"throw", "throws", "try", "catch", "finally", "assert", "synchronized", "package", "protected", "volatile",
            "Object", "Integer", "Exception", "Random", "Thread", "yield", "equals", "hashCode", "toString", "instanceof", "double", "float"}) {
            Mill.due("'" + word + "' stands in the source", !Pattern.compile("\\b" + word + "\\b").matcher(bare).find());
        }
        Mill.due("no lambda, no method reference", !bare.contains("->") && !bare.contains("::"));
        Matcher imports = Pattern.compile("import ([^;]*);").matcher(bare);
        while (imports.find()) {
            Mill.due("import " + imports.group(1), imports.group(1).equals("java.util.Arrays"));
        }
        Matcher system = Pattern.compile("\\b(System|Math|Arrays|Long)\\.(\\w+)").matcher(bare);
        while (system.find()) {
            Mill.due(system.group(), Set.of("Arrays.fill", "Math.max", "Math.min", "Math.abs", "Long.MIN_VALUE").contains(system.group()));
        }
        lengths(bare);
    }

    /** Methods of a class inside stand 8 columns deep, those of JanusMill itself 4: from the head's line to that of its }. */
    private static void lengths(String bare) {
        String[] lines = bare.split("\n", -1);
        for (int i = 0; i < lines.length; i++) {
            if (!lines[i].matches(" {4}( {4})?[^ ].*\\).* \\{ *") || lines[i].contains(" class ")) {
                continue;
            }
            String end = lines[i].startsWith("        ") ? "        }" : "    }";
            int j = i;
            while (j < lines.length && !lines[j].stripTrailing().equals(end)) {
                j++;
            }
            Mill.due("lines of " + lines[i].trim() + " " + (j - i + 1), j - i + 1 <= 62);
        }
    }
}
