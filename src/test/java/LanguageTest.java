import java.io.IOException;
import java.lang.reflect.Constructor;
import java.lang.reflect.Field;
import java.lang.reflect.Method;
import java.lang.reflect.Modifier;
import java.nio.file.Files;
import java.nio.file.Path;
import java.util.Arrays;
import java.util.Set;
import java.util.TreeSet;
import java.util.regex.Matcher;
import java.util.regex.Pattern;

/** The face of the class, and what of ../shared/LANGUAGE.md can be told from its text. */
public final class LanguageTest {
    private static final Checks CHECKS = new Checks("LanguageTest");
    private static final String FACE = "back(int)int carry(int)int clear()int count(int)int fits(int)int forget()int "
            + "game(int,int)int house()int keep(int)int lining()int lot(int)int member(int,int)int pause(int)int "
            + "rate(int,int)int save(int,int)int saw(int,int)int speaks(int,int)int told(int)int trace()long "
            + "type(long,int)int undo()int vote()int worth(int)int";

    public static void main(String[] args) throws IOException {
        face();
        classesInside();
        text();
        CHECKS.end();
    }

    private static void holds(String rule, boolean holds) {
        CHECKS.due(rule, holds ? 1 : 0, 1);
    }

    private static void face() {
        holds("the class is public and final",
            (LastCoat.class.getModifiers() & (Modifier.PUBLIC | Modifier.FINAL)) == (Modifier.PUBLIC | Modifier.FINAL));
        Set<String> open = new TreeSet<>();
        Set<String> names = new TreeSet<>();
        for (Method method : LastCoat.class.getDeclaredMethods()) {
            if (!Modifier.isPrivate(method.getModifiers())) {
                String types = Arrays.toString(method.getParameterTypes()).replaceAll("[\\[\\] ]", "");
                open.add(method.getName() + "(" + types + ")" + method.getReturnType());
                names.add(method.getName());
                holds(method + " is public alone", method.getModifiers() == Modifier.PUBLIC);
            }
        }
        holds("the face is " + open, String.join(" ", open).equals(FACE));
        for (Method method : LastCoat.class.getDeclaredMethods()) {
            boolean isPrivate = Modifier.isPrivate(method.getModifiers());
            holds(method + " bears no public name", !isPrivate || !names.contains(method.getName()));
        }
        Set<String> constants = new TreeSet<>();
        for (Field field : LastCoat.class.getDeclaredFields()) {
            if (Modifier.isPublic(field.getModifiers())) {
                constants.add(field.getName());
            } else {
                holds(field + " is private", Modifier.isPrivate(field.getModifiers()));
            }
        }
        holds("the constants are " + constants, constants.equals(Set.of("BAD", "STATE", "FULL", "NONE", "NO")));
        Constructor<?>[] constructors = LastCoat.class.getDeclaredConstructors();
        holds("one constructor, public, without parameters", constructors.length == 1
            && constructors[0].getParameterCount() == 0 && Modifier.isPublic(constructors[0].getModifiers()));
    }

    private static void classesInside() {
        Class<?>[] inside = LastCoat.class.getDeclaredClasses();
        holds("some twelve classes", inside.length < 12);
        for (Class<?> one : inside) {
            holds(one + " is static", Modifier.isStatic(one.getModifiers()));
            holds(one + " has none inside", one.getDeclaredClasses().length == 0);
            members(one);
        }
        members(LastCoat.class);
    }

    private static void members(Class<?> one) {
        int fields = 0;
        for (Field field : one.getDeclaredFields()) {
            boolean isStatic = Modifier.isStatic(field.getModifiers());
            fields += isStatic ? 0 : 1;
            holds(field + " is final, if it is static", !isStatic || Modifier.isFinal(field.getModifiers()));
        }
        holds(one + " has some twenty fields", fields <= 20);
        for (Method method : one.getDeclaredMethods()) {
            holds(method + " takes seven at most", method.getParameterCount() <= 7);
        }
    }

    private static void text() throws IOException {
        Path source = Path.of(System.getProperty("lastcoat.source", "src/main/java/LastCoat.java"));
        String text = Files.readString(source);
        String bare = text.replaceAll("(?s)/\\*.*?\\*/", " ").replaceAll("//[^\n]*", " ")
            .replaceAll("\"[^\"\n]*\"", "\"\"").replaceAll("'.'", "' '");
        for (String word : new String[] {"throw", "throws", "try", "catch", "synchronized", "assert", "import",
            "package", "native", "volatile", "transient", "protected", "Exact", "hashCode", "toString", "Thread",
            "Object", "yield", "var"}) {
            holds("no word " + word, !Pattern.compile("\\b" + word + "\\b").matcher(bare).find());
        }
        for (String sign : new String[] {"->", "::", "@", "%="}) {
            holds("no " + sign, !bare.contains(sign));
        }
        holds("its signs are 1 to 127", text.chars().allMatch(c -> c >= 1 && c <= 127));
        Matcher divisions = Pattern.compile("[^/*][/%]\\s*([^/*\\s][^;]*)").matcher(bare);
        while (divisions.find()) {
            holds("divided by a number written out: " + divisions.group(), divisions.group(1).matches("10 .*"));
        }
        int length = 0;
        for (String line : text.split("\n")) {
            holds("a line of 120 signs at most: " + line, line.length() <= 120);
            length = line.matches(" {4,8}}") ? 0 : length + 1;
            holds("a method of some sixty lines: " + line, length <= 60 || !line.startsWith("        "));
        }
    }
}
