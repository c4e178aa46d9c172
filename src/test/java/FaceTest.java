import java.io.IOException;
import java.lang.reflect.Constructor;
import java.lang.reflect.Field;
import java.lang.reflect.Method;
import java.lang.reflect.Modifier;
import java.nio.file.Files;
import java.nio.file.Path;
import java.util.ArrayList;
import java.util.List;
import java.util.Set;
import java.util.TreeSet;

/** The face is the document's, no more and no less, and the source keeps to those rules of the language that can be seen. */
public final class FaceTest {
    private static int wrong = 0;

    private static final String[] METHODS = {
        "int feed(int,int,int,int,int)", "int street(int)", "int law(int)", "int moves(int)", "int book(int)", "int fault()", "int told(int)",
        "int post(int,int)", "int beam(int,int)", "int light(int,int)", "boolean shade(int,int,int)", "int bears(int,int)",
        "int bearing(int,int,int,int)", "long rests(int,int,int)", "long puts(int,int,int)", "int falls(int)", "int lies(int,int)", "int fallen()",
        "int order(int)", "int day(int)", "int kept(int,int,int)", "int carry(int,int,int,int)", "int lit(int,int,int)", "int tower(int,int)",
        "int worth(int)", "int walk(int,int,int,int)", "int missing(int,int)", "int right()", "int whole(int,int)", "int next(int)",
        "long odds(int,int,int,int,int)", "int drawn(int,int)", "int span(int,int,int,int,int)", "int places(int,int,int)", "int row(int,int)",
        "int best(int)", "int held(int)", "int share(int)", "int summed(int,int)", "long slack(int,int,int)", "int lighter(int)", "int lasts(int)",
        "int heaviest()", "int bare(int,int)", "int build(int,int)", "int lay(int,int)", "int put(int,int,int)", "int undo()", "int image()",
        "int restore()", "int status(int)", "int count(int)"};

    private static final String[] FORBIDDEN = {"try", "catch", "finally", "synchronized", "assert", "volatile", "native", "System.out", "System.in",
        "System.exit", "System.nano", "System.current", "System.get", "Thread", "Random", "->", "::", "getMessage", "Exact(", "double", "float", "package "};

    private static void due(boolean fine, String what) {
        if (!fine) {
            wrong++;
            System.out.println("FaceTest: " + what);
        }
    }

    private static String signature(Method m) {
        StringBuilder s = new StringBuilder(m.getReturnType().getName()).append(' ').append(m.getName()).append('(');
        for (int i = 0; i < m.getParameterCount(); i++) {
            s.append(i == 0 ? "" : ",").append(m.getParameterTypes()[i].getName());
        }
        return s.append(')').toString();
    }

    private static void face() {
        Class<?> c = ShadeBeams.class;
        due(Modifier.isPublic(c.getModifiers()) && Modifier.isFinal(c.getModifiers()), "the class is not public and final");
        Constructor<?>[] made = c.getDeclaredConstructors();
        due(made.length == 1 && Modifier.isPublic(made[0].getModifiers()) && made[0].getParameterCount() == 0, "the constructor");
        Set<String> want = new TreeSet<>(List.of(METHODS));
        due(want.size() == METHODS.length, "a method twice");
        for (Method m : c.getDeclaredMethods()) {
            if (Modifier.isPublic(m.getModifiers())) {
                due(want.remove(signature(m)), "not of the face: " + signature(m));
                due(!Modifier.isStatic(m.getModifiers()), "static: " + m);
            } else {
                due(Modifier.isPrivate(m.getModifiers()) || m.isSynthetic(), "neither public nor private: " + m);
            }
        }
        due(want.isEmpty(), "missing: " + want);
        for (Field f : c.getDeclaredFields()) {
            boolean none = f.getName().equals("NONE");
            due(none == Modifier.isPublic(f.getModifiers()), "public or not: " + f);
            due(none || Modifier.isPrivate(f.getModifiers()), "not private: " + f);
        }
        due(ShadeBeams.NONE == -1, "NONE");
    }

    private static void classesInside() {
        Set<String> names = new TreeSet<>();
        for (Method m : ShadeBeams.class.getDeclaredMethods()) {
            if (Modifier.isPublic(m.getModifiers())) {
                names.add(m.getName());
            } else {
                due(m.getParameterCount() <= 7, "too many parameters: " + m);
            }
        }
        for (Method m : ShadeBeams.class.getDeclaredMethods()) {
            due(Modifier.isPublic(m.getModifiers()) || !names.contains(m.getName()), "a private method of a public one's name: " + m);
        }
        List<Class<?>> all = new ArrayList<>(List.of(ShadeBeams.class.getDeclaredClasses()));
        due(all.size() <= 12, "too many classes");
        for (Class<?> c : all) {
            due(Modifier.isStatic(c.getModifiers()) && !Modifier.isPublic(c.getModifiers()), "not static, or public: " + c);
            for (Method m : c.getDeclaredMethods()) {
                due(!names.contains(m.getName()), "a public one's name: " + m);
                due(m.getParameterCount() <= 7, "too many parameters: " + m);
            }
        }
        all.add(ShadeBeams.class);
        for (Class<?> c : all) {
            int fields = 0;
            for (Field f : c.getDeclaredFields()) {
                boolean isStatic = Modifier.isStatic(f.getModifiers());
                due(!isStatic || Modifier.isFinal(f.getModifiers()), "static and not final: " + f);
                fields += isStatic ? 0 : 1;
            }
            due(fields <= 21, "too many fields: " + c);
        }
    }

    private static void source() throws IOException {
        List<String> lines = Files.readAllLines(Path.of("src/main/java/ShadeBeams.java"));
        int methodFrom = 0;
        String method = "";
        for (int i = 0; i < lines.size(); i++) {
            String line = lines.get(i);
            String code = line.replaceAll("\"[^\"]*\"", "\"\"").replaceAll("//.*", "").replaceAll("^\\s*/?\\*.*", "");
            for (String bad : FORBIDDEN) {
                boolean word = Character.isLetter(bad.charAt(bad.length() - 1));
                boolean found = word ? code.matches(".*\\b" + java.util.regex.Pattern.quote(bad) + "\\b.*") : code.contains(bad);
                due(!found, "line " + (i + 1) + " has " + bad);
            }
            due(line.chars().allMatch(ch -> ch < 127), "line " + (i + 1) + " has a sign beyond 126");
            if (code.startsWith("import ")) {
                due(code.equals("import java.util.Arrays;") || code.equals("import java.util.NoSuchElementException;"), "line " + (i + 1) + " imports");
            }
            if (code.matches("( {4}| {8})(?!if |for |while |switch |do |\\})\\S.*\\{") && code.contains("(")) {
                methodFrom = i;
                method = code.replaceAll("\\(.*", "").replaceAll(".*\\W", "");
            } else {
                due(!callsItself(code, method), "line " + (i + 1) + ": " + method + " calls itself");
            }
            if (code.matches(" {4}\\}| {8}\\}") && code.indexOf('}') == indent(lines.get(methodFrom))) {
                due(i - methodFrom <= 60, "the method from line " + (methodFrom + 1) + " on is long");
                method = "";
            }
        }
    }

    private static int indent(String line) {
        return line.length() - line.stripLeading().length();
    }

    /** Rule 8 lets private static methods do so alone; the class has none that needs it. */
    private static boolean callsItself(String code, String method) {
        return !method.isEmpty() && code.matches(".*(?<![.\\w])" + java.util.regex.Pattern.quote(method) + "\\(.*");
    }

    public static void main(String[] args) throws IOException {
        face();
        classesInside();
        source();
        System.out.println("FaceTest: " + wrong + " not as due");
        if (wrong != 0) {
            System.exit(1);
        }
    }
}
