import java.lang.reflect.Constructor;
import java.lang.reflect.Field;
import java.lang.reflect.Method;
import java.lang.reflect.Modifier;
import java.nio.file.Files;
import java.nio.file.Path;
import java.util.Set;
import java.util.TreeSet;
import java.util.regex.Matcher;
import java.util.regex.Pattern;

/** The public face, and what can be read from the source of the rules of ../shared/LANGUAGE.md. */
public final class SourceTests {
    private static final String[] FORBIDDEN = {"\\bimport\\b", "\\bpackage\\b", "\\bthrow", "\\bcatch\\b", "\\btry\\b",
        "\\bfinally\\b", "\\bsynchronized\\b", "\\bassert\\b", "->", "::", "\\bvar\\b", "\\binstanceof\\b", "\\bfloat\\b",
        "\\bSystem\\b", "\\bThread\\b", "\\bObject\\b", "\\bequals\\b", "\\bhashCode\\b", "\\btoString\\b", "\"", "\\?>",
        "\\bprotected\\b", "while \\(true\\)", "for \\(;"};
    private static final int LONGEST_METHOD = 60;
    private static final int MOST_CLASSES = 12;
    private static final int MOST_FIELDS = 20;

    private static final Checks CHECKS = new Checks();

    public static void main(String[] args) throws Exception {
        String source = Files.readString(Path.of("src/main/java/HeatPumpPlant.java"));
        String code = source.replaceAll("(?s)/\\*.*?\\*/", "").replaceAll("//[^\n]*", "");
        face(Files.readString(Path.of("../shared/DOC.md")));
        insideClasses();
        words(code);
        objectsAreMadeInConstructors(code);
        lengths(code);
        CHECKS.end("SourceTests");
    }

    private static String types(Class<?>[] types) {
        StringBuilder b = new StringBuilder();
        for (Class<?> type : types) {
            b.append(b.length() == 0 ? "" : ",").append(type.getSimpleName());
        }
        return b.toString();
    }

    /** The members that the document's face tells, as types and names. */
    private static Set<String> faceOf(String document) {
        Set<String> members = new TreeSet<>();
        Matcher block = Pattern.compile("(?s)```java\\npublic final class HeatPumpPlant \\{\\n(.*?)\\n\\}\\n```").matcher(document);
        String text = block.find() ? block.group(1) : "";
        Matcher method = Pattern.compile("public ((?:\\w+ )?\\w+\\()(.*?)\\);").matcher(text);
        while (method.find()) {
            String types = method.group(2).replaceAll(" \\w+(, )?", "$1").replace(", ", ",");
            members.add(method.group(1) + types + ")");
        }
        Matcher constants = Pattern.compile("public static final int (.*);").matcher(text);
        while (constants.find()) {
            for (String constant : constants.group(1).split(", ")) {
                members.add("int " + constant.replaceFirst(" = .*", ""));
                constant(constant.split(" = "));
            }
        }
        CHECKS.due("the members of the document's face", members.size(), 1 + 40 + 7);
        return members;
    }

    private static void constant(String[] nameAndValue) {
        try {
            int value = HeatPumpPlant.class.getField(nameAndValue[0]).getInt(null);
            CHECKS.due(nameAndValue[0], value, Integer.parseInt(nameAndValue[1]));
        } catch (ReflectiveOperationException e) {
            CHECKS.holds("there is the constant " + nameAndValue[0], false);
        }
    }

    private static void face(String document) {
        Class<?> face = HeatPumpPlant.class;
        CHECKS.holds("the class is public and final", Modifier.isPublic(face.getModifiers()) && Modifier.isFinal(face.getModifiers()));
        Set<String> found = new TreeSet<>();
        for (Constructor<?> constructor : face.getDeclaredConstructors()) {
            CHECKS.holds(constructor + " is public", Modifier.isPublic(constructor.getModifiers()));
            found.add("HeatPumpPlant(" + types(constructor.getParameterTypes()) + ")");
        }
        Set<String> names = new TreeSet<>();
        for (Method method : face.getDeclaredMethods()) {
            if (Modifier.isPublic(method.getModifiers())) {
                CHECKS.holds(method + " belongs to an object", !Modifier.isStatic(method.getModifiers()));
                found.add(method.getReturnType().getSimpleName() + " " + method.getName() + "("
                        + types(method.getParameterTypes()) + ")");
                names.add(method.getName());
            }
        }
        for (Method method : face.getDeclaredMethods()) {
            boolean hidden = Modifier.isPrivate(method.getModifiers()) && !names.contains(method.getName());
            CHECKS.holds(method + " is public, or private with a name of its own",
                    Modifier.isPublic(method.getModifiers()) || hidden);
        }
        for (Field field : face.getDeclaredFields()) {
            if (Modifier.isPublic(field.getModifiers())) {
                found.add(field.getType().getSimpleName() + " " + field.getName());
            } else {
                CHECKS.holds(field + " is private", Modifier.isPrivate(field.getModifiers()));
            }
            CHECKS.holds(field + " is final", Modifier.isFinal(field.getModifiers()));
        }
        Set<String> due = faceOf(document);
        CHECKS.holds("the face is that of the document, " + due + ", not " + found, found.equals(due));
    }

    private static void insideClasses() {
        Class<?>[] inside = HeatPumpPlant.class.getDeclaredClasses();
        CHECKS.holds("there are some twelve classes at most", inside.length + 1 <= MOST_CLASSES);
        for (Class<?> one : inside) {
            CHECKS.holds(one + " is private and static",
                    Modifier.isPrivate(one.getModifiers()) && Modifier.isStatic(one.getModifiers()));
            int fields = 0;
            for (Field field : one.getDeclaredFields()) {
                boolean constant = Modifier.isStatic(field.getModifiers());
                CHECKS.holds(field + " is final if it is static", !constant || Modifier.isFinal(field.getModifiers()));
                fields += constant ? 0 : 1;
            }
            CHECKS.holds(one + " has some twenty fields at most", fields <= MOST_FIELDS);
            for (Method method : one.getDeclaredMethods()) {
                CHECKS.holds(method + " has seven parameters at most", method.getParameterCount() <= 7);
            }
        }
    }

    private static void words(String code) {
        for (String word : FORBIDDEN) {
            Matcher found = Pattern.compile(word).matcher(code);
            CHECKS.holds("there is no " + word, !found.find());
        }
        Matcher library = Pattern.compile("\\bMath\\.(\\w+)").matcher(code);
        while (library.find()) {
            CHECKS.holds("Math." + library.group(1) + " is allowed", Set.of("min", "max").contains(library.group(1)));
        }
    }

    /** So that a run of calls makes no more objects than the objects that it uses. */
    private static void objectsAreMadeInConstructors(String code) {
        String method = "";
        for (String line : code.split("\n")) {
            Matcher head = Pattern.compile("^ +(?:(?:public|private|static|final) )*(?:[\\w\\[\\]]+ )?(\\w+)\\(.*\\{$").matcher(line);
            if (head.find() && !line.matches(" +(if|for|while|switch|\\}).*")) {
                method = head.group(1);
            }
            if (line.matches(".*\\bnew\\b.*")) {
                CHECKS.holds("this stands in a constructor: " + line, Character.isUpperCase(method.charAt(0)));
            }
        }
    }

    private static void lengths(String code) {
        int depth = 0;
        int begin = 0;
        String[] lines = code.split("\n");
        for (int i = 0; i < lines.length; i++) {
            boolean head = lines[i].matches("^( {4}| {8})\\S.*\\) \\{$");
            if (head && lines[i].indexOf(lines[i].trim()) >= 4 && !lines[i].matches(" +(if|for|while|switch).*")) {
                begin = i;
                depth = lines[i].indexOf(lines[i].trim());
            }
            if (lines[i].matches(" {" + depth + "}\\}")) {
                CHECKS.holds("the method in line " + begin + " is short", i - begin <= LONGEST_METHOD);
            }
            CHECKS.holds("this line is not too long: " + lines[i], lines[i].length() <= 120);
        }
    }
}
