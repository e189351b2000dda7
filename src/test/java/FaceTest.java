import java.io.IOException;
import java.lang.reflect.Constructor;
import java.lang.reflect.Field;
import java.lang.reflect.Method;
import java.lang.reflect.Modifier;
import java.nio.file.Files;
import java.nio.file.Path;
import java.util.List;
import java.util.Set;
import java.util.TreeSet;
import java.util.regex.Matcher;
import java.util.regex.Pattern;

/** The public face, and those rules of LANGUAGE.md that can be seen in the class or its source. */
public final class FaceTest {
    private static final Path SOURCE = Path.of("src/main/java/HomeByFour.java");
    private static final String FACE = """
        int net(int,int,int,int)
        int ofStretch(int,int)
        int due(int)
        int law(int)
        int friend(int)
        int close(int,boolean)
        int walk(int,int,int,int,int)
        long safe(int,int,int,int,int)
        int quickest(int)
        int via(int)
        int best(int,int)
        int safest(int,int)
        int worth(int)
        int reading(int,boolean)
        int back(int)
        int trails(int,int,int)
        long dawdle(int,int,int)
        int sheet(int,int,int)
        int lose(int)
        int put(int,int,int)
        long cell(int,int,int)
        int copy(int,int,int,int,int)
        int tell(int)
        int sing(int)
        int as(int,int)
        int trace()
        int fault()
        int many(int)
        """;
    private static final Check c = new Check();

    public static void main(String[] args) throws IOException {
        members();
        constants();
        classesInside();
        source(Files.readString(SOURCE));
        lengths(Files.readAllLines(SOURCE));
        c.end();
    }

    private static void members() {
        c.part("rule 1");
        Set<String> seen = new TreeSet<>();
        Set<String> names = new TreeSet<>();
        for (Method method : HomeByFour.class.getDeclaredMethods()) {
            if (Modifier.isPublic(method.getModifiers())) {
                StringBuilder types = new StringBuilder();
                for (Class<?> type : method.getParameterTypes()) {
                    types.append(types.length() == 0 ? "" : ",").append(type.getName());
                }
                seen.add(method.getReturnType().getName() + " " + method.getName() + "(" + types + ")");
                names.add(method.getName());
                c.dueTrue(method + " is of an object", !Modifier.isStatic(method.getModifiers()));
            }
        }
        c.dueTrue("the methods are " + seen, seen.equals(new TreeSet<>(FACE.lines().toList())));
        for (Method method : HomeByFour.class.getDeclaredMethods()) {
            boolean isPrivate = Modifier.isPrivate(method.getModifiers());
            c.dueTrue(method + " is public or private", isPrivate || Modifier.isPublic(method.getModifiers()));
            c.dueTrue(method + " has a name of its own", !isPrivate || !names.contains(method.getName()));
        }
        Constructor<?>[] made = HomeByFour.class.getDeclaredConstructors();
        c.due("constructors", made.length, 1);
        c.due("its parameters", made[0].getParameterCount(), 0);
        c.dueTrue("it is public", Modifier.isPublic(made[0].getModifiers()));
        c.dueTrue("final", Modifier.isFinal(HomeByFour.class.getModifiers()));
        c.dueTrue("public", Modifier.isPublic(HomeByFour.class.getModifiers()));
    }

    private static void constants() {
        c.part("rules 1, 5");
        Set<String> seen = new TreeSet<>();
        for (Field field : HomeByFour.class.getDeclaredFields()) {
            int how = field.getModifiers();
            if (Modifier.isPublic(how)) {
                seen.add(field.getType().getName() + " " + field.getName());
            }
            c.dueTrue(field + " is public or private", Modifier.isPublic(how) || Modifier.isPrivate(how));
            c.dueTrue(field + " is final, if it is static", !Modifier.isStatic(how) || Modifier.isFinal(how));
        }
        c.dueTrue("the constants are " + seen, seen.equals(new TreeSet<>(Set.of(
            "int UNKNOWN", "int OUTSIDE", "int STATE", "int FULL", "int NONE", "long LOST"))));
    }

    private static void classesInside() {
        c.part("rules 2, 5, 11");
        Class<?>[] inside = HomeByFour.class.getDeclaredClasses();
        c.dueTrue("at most twelve classes", inside.length + 1 <= 12);
        for (Class<?> one : inside) {
            int how = one.getModifiers();
            c.dueTrue(one + " is static", Modifier.isStatic(how));
            c.dueTrue(one + " is no face", !Modifier.isPublic(how) && !Modifier.isProtected(how));
            int own = 0;
            for (Field field : one.getDeclaredFields()) {
                boolean isStatic = Modifier.isStatic(field.getModifiers());
                own += isStatic ? 0 : 1;
                c.dueTrue(field + " is final, if it is static", !isStatic || Modifier.isFinal(field.getModifiers()));
            }
            c.dueTrue(one + " has some twenty fields at most", own <= 20);
            for (Method method : one.getDeclaredMethods()) {
                c.dueTrue(method + " takes at most seven", method.getParameterCount() <= 7);
            }
        }
    }

    private static void source(String text) {
        c.part("rules 3, 4, 6, 13");
        String code = text.replaceAll("(?s)/\\*.*?\\*/", " ").replaceAll("//[^\\n]*", " ");
        for (String word : new String[] {"throw", "throws", "try", "catch", "finally", "synchronized", "assert",
            "double", "float", "package", "volatile", "transient", "native", "Object", "equals", "hashCode", "toString",
            "Random", "Thread", "currentTimeMillis", "nanoTime", "getenv", "var", "protected", "\\w+Exact"}) {
            c.dueTrue("no " + word, !Pattern.compile("\\b" + word + "\\b").matcher(code).find());
        }
        c.dueTrue("no lambda, no method reference", !code.contains("->") && !code.contains("::"));
        c.dueTrue("but one import", code.split("\\bimport\\b", -1).length == 2);
        dueOfLibrary(code, "System", Set.of("arraycopy"));
        dueOfLibrary(code, "Arrays", Set.of("fill"));
        dueOfLibrary(code, "Math", Set.of("min", "max"));
        dueOfLibrary(code, "Long", Set.of("MIN_VALUE"));
        dueOfLibrary(code, "Integer", Set.of());
        c.dueTrue("signs 10, 32 to 126", text.chars().allMatch(sign -> sign == 10 || sign >= 32 && sign < 127));
    }

    /** A method begins with a line that ends in an opening brace, and ends with a brace as far from the edge. */
    private static void lengths(List<String> lines) {
        c.part("rule 11");
        int begun = 0;
        String edge = "";
        for (int k = 0; k < lines.size(); k++) {
            String line = lines.get(k);
            if (line.matches(" +[\\w\\[\\] ]*\\w\\([\\w\\[\\], ]*\\) \\{") && !line.matches(" +(if|for|switch) .*")) {
                begun = k;
                edge = line.substring(0, line.length() - line.stripLeading().length());
            } else if (begun != 0 && line.equals(edge + "}")) {
                c.dueTrue("some sixty lines at most:" + lines.get(begun), k - begun < 60);
                begun = 0;
            }
        }
    }

    private static void dueOfLibrary(String code, String name, Set<String> listed) {
        Matcher used = Pattern.compile("\\b" + name + "\\.(\\w+)").matcher(code);
        while (used.find()) {
            c.dueTrue(used.group() + " is listed", listed.contains(used.group(1)));
        }
    }
}
