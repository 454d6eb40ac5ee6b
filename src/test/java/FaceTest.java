import java.lang.reflect.Constructor;
import java.lang.reflect.Field;
import java.lang.reflect.Method;
import java.lang.reflect.Modifier;
import java.nio.file.Files;
import java.nio.file.Path;
import java.util.ArrayList;
import java.util.List;
import java.util.regex.Matcher;
import java.util.regex.Pattern;

/** The face has what the document tells and nothing else, and the source no word that LANGUAGE.md rules out. */
public final class FaceTest {
    private static final String[] METHODS = {
        "int letters(long)", "int blank()", "int fault(int)", "int plan()", "int square(int,int)",
        "int thing(int,int,int)", "int about(int,int)", "int as(int,int)", "int stand(int,int,int)",
        "int put(int,int)", "int trade(int,int,int)", "int leans(int,int)", "int dip(int,int)", "int wet(int)",
        "int trades(int,int)", "int counter(int,int,int)", "int stones(int)", "int site(int)",
        "int late(int,int,int)", "int storm(int)", "int moss()", "int cows(int,int,int,int)",
        "int image()", "int restore()", "int count(int)", "long digest()"};
    private static final String[] CONSTANTS = {"NONE", "UNKNOWN", "OUTSIDE", "STATE", "FULL"};
    private static final String[] RULED_OUT = {"import ", "->", "::", "synchronized", "finally", "assert ",
        "throw", "catch", "System.out", "System.nano", "System.current", "System.getenv", "Random",
        "Thread", "hashCode", "equals", "toString", "NaN", "protected ", "package "};
    private static final List<String> LIBRARY = List.of("Integer.bitCount", "Math.max", "System.arraycopy");
    private static final int MOST_LINES = 60;

    public static void main(String[] args) throws Exception {
        constants();
        face();
        classesInside();
        source();
        Due.end();
    }

    private static void constants() {
        Due.is("NONE", IslandThatLeans.NONE, -1);
        Due.is("UNKNOWN", IslandThatLeans.UNKNOWN, -101);
        Due.is("OUTSIDE", IslandThatLeans.OUTSIDE, -102);
        Due.is("STATE", IslandThatLeans.STATE, -103);
        Due.is("FULL", IslandThatLeans.FULL, -104);
    }

    private static void face() {
        List<String> methods = new ArrayList<>(List.of(METHODS));
        for (Method method : IslandThatLeans.class.getDeclaredMethods()) {
            String told = signature(method);
            if (Modifier.isPublic(method.getModifiers())) {
                Due.holds(told + " is in the document", methods.remove(told) && !Modifier.isStatic(method.getModifiers()));
            } else {
                Due.holds(told + " is private", method.isSynthetic() || Modifier.isPrivate(method.getModifiers()));
                Due.holds(told + " bears no public name", !List.of(METHODS).toString().contains(" " + method.getName() + "("));
            }
        }
        Due.holds("all of the document is there but " + methods, methods.isEmpty());
        List<String> constants = List.of(CONSTANTS);
        for (Field field : IslandThatLeans.class.getDeclaredFields()) {
            boolean isPublic = Modifier.isPublic(field.getModifiers());
            Due.holds(field.getName() + " is as told", isPublic == constants.contains(field.getName()));
            Due.holds(field.getName() + " is private", isPublic || Modifier.isPrivate(field.getModifiers()));
        }
        Constructor<?>[] made = IslandThatLeans.class.getDeclaredConstructors();
        Due.is("constructors", made.length, 1);
        Due.holds("it is public, without parameters", Modifier.isPublic(made[0].getModifiers()) && made[0].getParameterCount() == 0);
        Due.holds("the class is final", Modifier.isFinal(IslandThatLeans.class.getModifiers()));
    }

    /** Rules 1, 2, 5 and 11: what stands inside is private and static, bears no name of the face, and is not much. */
    private static void classesInside() {
        Class<?>[] inside = IslandThatLeans.class.getDeclaredClasses();
        Due.holds("some twelve classes at most", inside.length < 12);
        smallClass(IslandThatLeans.class);
        for (Class<?> each : inside) {
            Due.holds(each + " is private", Modifier.isPrivate(each.getModifiers()));
            Due.holds(each + " is static", Modifier.isStatic(each.getModifiers()));
            smallClass(each);
            for (Method method : each.getDeclaredMethods()) {
                Due.holds(method + " is not public", !Modifier.isPublic(method.getModifiers()));
                Due.holds(method + " takes seven at most", method.getParameterCount() <= 7);
                Due.holds(method + " bears no public name", !Modifier.isPrivate(method.getModifiers())
                        || !List.of(METHODS).toString().contains(" " + method.getName() + "("));
            }
        }
    }

    private static void smallClass(Class<?> each) {
        int fields = 0;
        for (Field field : each.getDeclaredFields()) {
            boolean isStatic = Modifier.isStatic(field.getModifiers());
            fields += isStatic ? 0 : 1;
            Due.holds(field + " is final, if it is static", !isStatic || Modifier.isFinal(field.getModifiers()));
        }
        Due.holds(each + " has some twenty fields at most", fields <= 20);
    }

    private static String signature(Method method) {
        StringBuilder text = new StringBuilder();
        text.append(method.getReturnType().getName()).append(' ').append(method.getName()).append('(');
        for (int i = 0; i < method.getParameterCount(); i++) {
            text.append(i > 0 ? "," : "").append(method.getParameterTypes()[i].getName());
        }
        return text.append(')').toString();
    }

    private static void source() throws Exception {
        StringBuilder code = new StringBuilder();
        for (String line : Files.readAllLines(Path.of("src/main/java/IslandThatLeans.java"))) {
            String bare = line.strip();
            if (!bare.startsWith("//") && !bare.startsWith("*") && !bare.startsWith("/*")) {
                code.append(line).append('\n');
            }
        }
        for (String word : RULED_OUT) {
            Due.holds("no " + word + " in the source", code.indexOf(word) < 0);
        }
        Matcher used = Pattern.compile("\\b(?:Integer|Long|Math|System|Arrays)\\.\\w+").matcher(code);
        while (used.find()) {
            Due.holds(used.group() + " is one of the library's that are used", LIBRARY.contains(used.group()));
        }
        methodsInside(code.toString());
    }

    /** Rules 8 and 11: methods are short, and none that is not static calls itself without another between. */
    private static void methodsInside(String code) {
        Matcher heads = Pattern.compile("(?m)^( +)(?:[a-z]+ )*(?:[\\w\\[\\]]+ )?(\\w+)\\([^()]*\\) \\{$").matcher(code);
        int methods = 0;
        while (heads.find()) {
            int end = code.indexOf("\n" + heads.group(1) + "}", heads.end());
            String body = code.substring(heads.end(), end);
            String name = heads.group(2);
            if (List.of("if", "for", "while", "switch").contains(name)) {
                continue;
            }
            methods++;
            Due.holds(name + " is short", body.lines().count() <= MOST_LINES);
            Due.holds(name + " does not call itself", !Pattern.compile("(?<![.\\w])" + name + "\\(").matcher(body).find());
        }
        Due.holds("its methods were found", methods > 26);
    }
}
