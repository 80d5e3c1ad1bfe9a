import java.io.IOException;
import java.lang.reflect.Constructor;
import java.lang.reflect.Field;
import java.lang.reflect.Method;
import java.lang.reflect.Modifier;
import java.nio.file.Files;
import java.nio.file.Path;
import java.util.Map;
import java.util.Set;
import java.util.TreeMap;
import java.util.TreeSet;
import java.util.regex.Matcher;
import java.util.regex.Pattern;

/** The public face of the document, and what can be seen of LANGUAGE.md in the source. */
public final class LanguageTest {
    private static final Check c = new Check();
    private static final String FACE = "int node() int word(int,int,int,int,int) int late(int,int) int due(int,int) int value(int,long) "
        + "int rank(int,int) int of(int,int) int about(int,int) int size(int) int bit(int,int) int sum(int) int stuffed(int) int ahead(int,int) "
        + "int feed(int,int) int lay(int) int bend(int) int wipe() int read(int) int told(int) long bytes() int come(int) int disturb(int) int run(int) "
        + "int count(int) int log(int,int) int every(int) int most(int) int worst(int) int misses() long load() int order() int place(int) int give() "
        + "int put(int) int tear() int row(int) int copy(int,int,int) int status(int)";
    private static final int DEEPEST = 8;
    private static final String[] FORBIDDEN = {"throw", "throws", "try", "catch", "synchronized", "assert", "import", "package", "volatile",
        "transient", "native", "protected", "Object", "Thread", "Random", "Optional", "var", "hashCode", "toString", "getClass", "Exact"};

    public static void main(String[] args) throws IOException {
        constants();
        members();
        nestedClasses();
        source(Files.readString(Path.of("src/main/java/RankWire.java")));
        c.end();
    }

    private static void constants() {
        int[] got = {RankWire.NONE, RankWire.MISSING, RankWire.BEYOND, RankWire.BELOW, RankWire.KIND, RankWire.COPY, RankWire.NO, RankWire.FULL, RankWire.SAME};
        for (int i = 0; i < got.length; i++) {
            c.due("constant " + i, got[i], -1 - i);
        }
    }

    private static String written(Method m) {
        StringBuilder s = new StringBuilder(m.getReturnType() + " " + m.getName() + "(");
        for (Class<?> type : m.getParameterTypes()) {
            s.append(s.charAt(s.length() - 1) == '(' ? "" : ",").append(type);
        }
        return s.append(")").toString();
    }

    private static void members() {
        Set<String> face = new TreeSet<>();
        Matcher m = Pattern.compile("(int|long) \\w+\\([a-z,]*\\)").matcher(FACE);
        while (m.find()) {
            face.add(m.group());
        }
        c.due("the face has 38 methods", face.size(), 38);
        Set<String> names = new TreeSet<>();
        Set<String> found = new TreeSet<>();
        for (Method method : RankWire.class.getDeclaredMethods()) {
            if (!Modifier.isPrivate(method.getModifiers())) {
                found.add(written(method));
                names.add(method.getName());
            }
        }
        holds("the methods are the face: " + found, found.equals(face));
        for (Method method : RankWire.class.getDeclaredMethods()) {
            holds("a private " + method.getName(), !Modifier.isPrivate(method.getModifiers()) || !names.contains(method.getName()));
        }
        holds("the class is public and final", Modifier.isPublic(RankWire.class.getModifiers()) && Modifier.isFinal(RankWire.class.getModifiers()));
        Constructor<?>[] constructors = RankWire.class.getDeclaredConstructors();
        holds("one public constructor", constructors.length == 1 && Modifier.isPublic(constructors[0].getModifiers()) && constructors[0].getParameterCount() == 0);
        int open = 0;
        for (Field field : RankWire.class.getDeclaredFields()) {
            open += Modifier.isPrivate(field.getModifiers()) ? 0 : 1;
        }
        c.due("constants that are not private", open, 9);
    }

    private static void nestedClasses() {
        Class<?>[] inside = RankWire.class.getDeclaredClasses();
        holds("at most some twelve classes", inside.length <= 11);
        for (Class<?> one : inside) {
            int how = one.getModifiers();
            holds(one + " is static and not public", Modifier.isStatic(how) && !Modifier.isPublic(how) && !Modifier.isProtected(how));
            int fields = 0;
            for (Field field : one.getDeclaredFields()) {
                fields += Modifier.isStatic(field.getModifiers()) ? 0 : 1;
            }
            holds(one + " has at most some twenty fields", fields <= 20);
            for (Method method : one.getDeclaredMethods()) {
                holds(method + " has at most seven parameters", method.getParameterCount() <= 7);
                holds(method + " bears no name of the face", !FACE.contains(" " + method.getName() + "("));
            }
        }
    }

    private static void source(String text) {
        String code = text.replaceAll("(?s)/\\*.*?\\*/", "").replaceAll("//[^\n]*", "");
        Map<String, String> bodies = bodies(code);
        everyMethodIsFound(bodies);
        callsAreNotDeep(bodies);
        objectsAreFew(bodies);
        for (String word : FORBIDDEN) {
            holds("no " + word, !Pattern.compile("\\b" + word + "\\b").matcher(code).find());
        }
        holds("no lambda nor method reference", !code.contains("->") && !code.contains("::"));
        holds("no other library", !Pattern.compile("\\b(?!Math\\.(min|max)|System\\.arraycopy|TAIL\\.length)[A-Z]\\w*\\.\\w").matcher(code).find());
        holds("no static state", !Pattern.compile("static (?!final|class)[\\w\\[\\]]+ \\w+( =|;)").matcher(code).find());
        int length = 0;
        for (String line : code.split("\n")) {
            length = line.matches("\\s+(\\w+ )*[\\w\\[\\]]+ \\w+\\(.*\\) \\{") ? 0 : length + 1;
            if (line.matches(" {4}(?: {4})?\\}")) {
                holds("a method of " + length + " lines", length <= 60);
            }
        }
    }

    /** The bodies of methods by their names, those of one name in several classes together. */
    private static Map<String, String> bodies(String code) {
        Map<String, String> bodies = new TreeMap<>();
        Matcher body = Pattern.compile("(?ms)^( {4}| {8})(?:\\w[\\w\\[\\]]* )*(\\w+)\\([^)]*\\) \\{$(.*?)^\\1\\}$").matcher(code);
        while (body.find()) {
            bodies.merge(body.group(2), body.group(3), String::concat);
        }
        return bodies;
    }

    private static void everyMethodIsFound(Map<String, String> bodies) {
        for (Method method : RankWire.class.getDeclaredMethods()) {
            holds("the source has " + method.getName(), bodies.containsKey(method.getName()));
        }
        for (Class<?> one : RankWire.class.getDeclaredClasses()) {
            for (Method method : one.getDeclaredMethods()) {
                holds("the source has " + method.getName(), bodies.containsKey(method.getName()));
            }
        }
    }

    /** Rules 8 and 11: methods of one name count as one that calls what any of them does. */
    private static void callsAreNotDeep(Map<String, String> bodies) {
        Map<String, Set<String>> calls = new TreeMap<>();
        for (String name : bodies.keySet()) {
            Set<String> called = new TreeSet<>();
            Matcher call = Pattern.compile("(\\w+)\\(").matcher(bodies.get(name));
            while (call.find()) {
                called.add(call.group(1));
            }
            calls.put(name, called);
        }
        for (String name : calls.keySet()) {
            int deep = depth(name, calls, 1);
            holds(name + " goes " + deep + " calls deep", deep <= DEEPEST);
        }
    }

    /** Rule 12 and the one room: a call makes at most the node or the word that is kept. */
    private static void objectsAreFew(Map<String, String> bodies) {
        for (String name : bodies.keySet()) {
            boolean makes = Pattern.compile("\\bnew\\b|\\.clone\\(|copyOf").matcher(bodies.get(name)).find();
            holds(name + " makes no object", !makes || name.equals("addNode") || name.equals("word"));
        }
    }

    /** Of a method that calls itself, by others or not: above the deepest that is looked at. */
    private static int depth(String name, Map<String, Set<String>> calls, int above) {
        int deepest = above;
        for (String called : above > DEEPEST ? Set.<String>of() : calls.get(name)) {
            if (calls.containsKey(called)) {
                deepest = Math.max(deepest, depth(called, calls, above + 1));
            }
        }
        return deepest;
    }

    private static void holds(String what, boolean holds) {
        c.due(what, holds ? 1 : 0, 1);
    }
}
