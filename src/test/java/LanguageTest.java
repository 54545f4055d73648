import java.lang.reflect.Constructor;
import java.lang.reflect.Field;
import java.lang.reflect.Method;
import java.lang.reflect.Modifier;
import java.nio.file.Files;
import java.nio.file.Path;
import java.util.Set;
import java.util.TreeSet;
import java.util.regex.Matcher;
import java.util.regex.Pattern;

// The public face of the document, and what of the rules of LANGUAGE.md can be seen by simple means.
public final class LanguageTest {
    private static final Set<String> FACE = Set.of(
            "int set(int,int,long,long)", "int clear(int)", "int sort(int)", "long low(int)", "long high(int)",
            "int hull(int,int,int)", "int meet(int,int,int)", "int size(int,int)", "int round(int,int,int)",
            "int sign(int,int)", "int lend(int,int,int)", "int turn(int,int)", "int as(int,int,int)",
            "long near(int,long)", "int has(int,long)", "int alike(int,int)", "int step(int,int,int,int,int)",
            "int run(int,int)", "int state()", "int about(int)");
    private static final String[] LEFT_OUT = {
        "throw", "throws", "try", "catch", "finally", "synchronized", "assert", "float", "double", "protected",
        "volatile", "transient", "native", "package", "Object", "Double", "Float", "System", "Thread", "\\w+Exact",
        "equals", "hashCode", "toString", "->", "::"};

    private static int wrong = 0;

    private static void due(String what, boolean holds) {
        if (!holds) {
            wrong++;
            System.out.println("not so: " + what);
        }
    }

    private static String signature(Method m) {
        StringBuilder text = new StringBuilder(m.getReturnType().getSimpleName());
        text.append(' ').append(m.getName()).append('(');
        for (int i = 0; i < m.getParameterCount(); i++) {
            text.append(i == 0 ? "" : ",").append(m.getParameterTypes()[i].getSimpleName());
        }
        return text.append(')').toString();
    }

    private static void lookAtFace() {
        Class<?> desk = StretchDesk.class;
        due("the class is public and final", Modifier.isPublic(desk.getModifiers())
                && Modifier.isFinal(desk.getModifiers()));
        Set<String> found = new TreeSet<>();
        Set<String> publicNames = new TreeSet<>();
        for (Method m : desk.getDeclaredMethods()) {
            if (!Modifier.isPrivate(m.getModifiers())) {
                due(signature(m) + " is public, not static", m.getModifiers() == Modifier.PUBLIC);
                found.add(signature(m));
                publicNames.add(m.getName());
            }
        }
        due("the methods are those of the document, not " + found, found.equals(FACE));
        for (Method m : desk.getDeclaredMethods()) {
            due(m.getName() + " is the name of one method only",
                    !Modifier.isPrivate(m.getModifiers()) || !publicNames.contains(m.getName()));
        }
        Constructor<?>[] constructors = desk.getDeclaredConstructors();
        due("one public constructor", constructors.length == 1 && constructors[0].getParameterCount() == 0
                && Modifier.isPublic(constructors[0].getModifiers()));
    }

    private static void lookAtFields() {
        for (Field f : StretchDesk.class.getDeclaredFields()) {
            int modifiers = f.getModifiers();
            boolean isNone = f.getName().equals("NONE") && f.getType() == int.class && Modifier.isPublic(modifiers)
                    && Modifier.isStatic(modifiers);
            due(f.getName() + " is private", isNone || Modifier.isPrivate(modifiers));
            due(f.getName() + " is final, if static", !Modifier.isStatic(modifiers) || Modifier.isFinal(modifiers));
        }
        for (Class<?> inside : StretchDesk.class.getDeclaredClasses()) {
            due(inside + " is static", Modifier.isStatic(inside.getModifiers()));
            due(inside + " is not public", !Modifier.isPublic(inside.getModifiers()));
            due(inside + " has no fields", inside.getDeclaredFields().length == 0);
        }
    }

    private static void lookAtSource() throws java.io.IOException {
        String source = Files.readString(Path.of("src/main/java/StretchDesk.java"));
        String code = source.replaceAll("(?s)/\\*.*?\\*/", "").replaceAll("//[^\n]*", "");
        for (String word : LEFT_OUT) {
            String pattern = word.matches("[\\w\\\\+]+") ? "\\b" + word + "\\b" : word;
            Matcher found = Pattern.compile(pattern).matcher(code);
            due("the program is without " + word, !found.find());
        }
        Matcher imports = Pattern.compile("import ([^;]*);").matcher(code);
        while (imports.find()) {
            due("import " + imports.group(1), imports.group(1).equals("java.util.Arrays"));
        }
        due("the program divides nowhere", code.indexOf('/') < 0 && code.indexOf('%') < 0);
        Matcher library = Pattern.compile("\\b(Math|Long|Integer|Arrays)\\.(\\w+)").matcher(code);
        Set<String> known = Set.of("min", "max", "fill", "numberOfLeadingZeros");
        while (library.find()) {
            due("the library's " + library.group(), known.contains(library.group(2)));
        }
        for (int i = 0; i < source.length(); i++) {
            due("a character within 0 .. 255", source.charAt(i) < 256);
        }
    }

    public static void main(String[] args) throws java.io.IOException {
        lookAtFace();
        lookAtFields();
        lookAtSource();
        System.out.println(wrong == 0 ? "all is as due" : wrong + " things are not as due");
        if (wrong != 0) {
            System.exit(1);
        }
    }
}
