import java.lang.reflect.Constructor;
import java.lang.reflect.Field;
import java.lang.reflect.Method;
import java.lang.reflect.Modifier;
import java.nio.file.Files;
import java.nio.file.Path;
import java.util.Set;
import java.util.TreeSet;
import java.util.regex.Matcher;
import java.util.regex.Pattern;

/** The public face, and what can be read from the source of the rules of ../shared/LANGUAGE.md. */
public final class SourceTests {
    private static final String FACE = "HeatPumpPlant(); int set(int,int); int setting(int); int setOutdoor(int,int); "
            + "int outdoor(int); int setTariff(int,int); int tariff(int); int setPrice(int,int); int demand(int); "
            + "int addPoint(int,int); int removePoint(int); int supply(int); int target(int); int fill(int,int); "
            + "int temperature(int); long stored(); int run(int); int time(); int pump(); int reason(); "
            + "int minutesWith(int); int startsLastHour(); int starts(); int defrosts(); int frost(); long produced(); "
            + "long defrostHeat(); long drawn(); long unmet(); long lost(); long electricity(); long cost(); "
            + "double meanPercentage(); long costIn(int); int nextSwitch(); int bestBoost(int); int type(int); "
            + "int clearText(); int loadWeather(); int undo(); long digest(); int BAD; int STATE; int FULL; int NONE; "
            + "int OFF; int ON; int DEFROSTING";
    private static final String[] FORBIDDEN = {"\\bimport\\b", "\\bpackage\\b", "\\bthrow", "\\bcatch\\b", "\\btry\\b",
        "\\bfinally\\b", "\\bsynchronized\\b", "\\bassert\\b", "->", "::", "\\bvar\\b", "\\binstanceof\\b", "\\bfloat\\b",
        "\\bSystem\\b", "\\bThread\\b", "\\bObject\\b", "\\bequals\\b", "\\bhashCode\\b", "\\btoString\\b", "\"", "\\?>",
        "\\bprotected\\b", "while \\(true\\)", "for \\(;"};
    private static final int LONGEST_METHOD = 60;
    private static final int MOST_CLASSES = 12;
    private static final int MOST_FIELDS = 20;

    private static final Checks CHECKS = new Checks();

    public static void main(String[] args) throws Exception {
        String source = Files.readString(Path.of("src/main/java/HeatPumpPlant.java"));
        String code = source.replaceAll("(?s)/\\*.*?\\*/", "").replaceAll("//[^\n]*", "");
        face();
        insideClasses();
        words(code);
        objectsAreMadeInConstructors(code);
        lengths(code);
        CHECKS.end("SourceTests");
    }

    private static String types(Class<?>[] types) {
        StringBuilder b = new StringBuilder();
        for (Class<?> type : types) {
            b.append(b.length() == 0 ? "" : ",").append(type.getSimpleName());
        }
        return b.toString();
    }

    private static void face() {
        Class<?> face = HeatPumpPlant.class;
        CHECKS.holds("the class is public and final", Modifier.isPublic(face.getModifiers()) && Modifier.isFinal(face.getModifiers()));
        Set<String> found = new TreeSet<>();
        for (Constructor<?> constructor : face.getDeclaredConstructors()) {
            CHECKS.holds(constructor + " is public", Modifier.isPublic(constructor.getModifiers()));
            found.add("HeatPumpPlant(" + types(constructor.getParameterTypes()) + ")");
        }
        Set<String> names = new TreeSet<>();
        for (Method method : face.getDeclaredMethods()) {
            if (Modifier.isPublic(method.getModifiers())) {
                CHECKS.holds(method + " belongs to an object", !Modifier.isStatic(method.getModifiers()));
                found.add(method.getReturnType().getSimpleName() + " " + method.getName() + "("
                        + types(method.getParameterTypes()) + ")");
                names.add(method.getName());
            }
        }
        for (Method method : face.getDeclaredMethods()) {
            boolean hidden = Modifier.isPrivate(method.getModifiers()) && !names.contains(method.getName());
            CHECKS.holds(method + " is public, or private with a name of its own",
                    Modifier.isPublic(method.getModifiers()) || hidden);
        }
        for (Field field : face.getDeclaredFields()) {
            if (Modifier.isPublic(field.getModifiers())) {
                found.add(field.getType().getSimpleName() + " " + field.getName());
            } else {
                CHECKS.holds(field + " is private", Modifier.isPrivate(field.getModifiers()));
            }
            CHECKS.holds(field + " is final", Modifier.isFinal(field.getModifiers()));
        }
        CHECKS.holds("the face is that of the document, not " + found, found.equals(new TreeSet<>(Set.of(FACE.split("; ")))));
        int[] constants = {HeatPumpPlant.BAD, HeatPumpPlant.STATE, HeatPumpPlant.FULL, HeatPumpPlant.NONE,
            HeatPumpPlant.OFF, HeatPumpPlant.ON, HeatPumpPlant.DEFROSTING};
        int[] due = {-1, -2, -3, -9999, 0, 1, 2};
        for (int i = 0; i < due.length; i++) {
            CHECKS.due("constant " + i, constants[i], due[i]);
        }
    }

    private static void insideClasses() {
        Class<?>[] inside = HeatPumpPlant.class.getDeclaredClasses();
        CHECKS.holds("there are some twelve classes at most", inside.length + 1 <= MOST_CLASSES);
        for (Class<?> one : inside) {
            CHECKS.holds(one + " is private and static",
                    Modifier.isPrivate(one.getModifiers()) && Modifier.isStatic(one.getModifiers()));
            int fields = 0;
            for (Field field : one.getDeclaredFields()) {
                boolean constant = Modifier.isStatic(field.getModifiers());
                CHECKS.holds(field + " is final if it is static", !constant || Modifier.isFinal(field.getModifiers()));
                fields += constant ? 0 : 1;
            }
            CHECKS.holds(one + " has some twenty fields at most", fields <= MOST_FIELDS);
            for (Method method : one.getDeclaredMethods()) {
                CHECKS.holds(method + " has seven parameters at most", method.getParameterCount() <= 7);
            }
        }
    }

    private static void words(String code) {
        for (String word : FORBIDDEN) {
            Matcher found = Pattern.compile(word).matcher(code);
            CHECKS.holds("there is no " + word, !found.find());
        }
        Matcher library = Pattern.compile("\\bMath\\.(\\w+)").matcher(code);
        while (library.find()) {
            CHECKS.holds("Math." + library.group(1) + " is allowed", Set.of("min", "max").contains(library.group(1)));
        }
    }

    /** So that a run of calls makes no more objects than the objects that it uses. */
    private static void objectsAreMadeInConstructors(String code) {
        String method = "";
        for (String line : code.split("\n")) {
            Matcher head = Pattern.compile("^ +(?:(?:public|private|static|final) )*(?:[\\w\\[\\]]+ )?(\\w+)\\(.*\\{$").matcher(line);
            if (head.find() && !line.matches(" +(if|for|while|switch|\\}).*")) {
                method = head.group(1);
            }
            if (line.matches(".*\\bnew\\b.*")) {
                CHECKS.holds("this stands in a constructor: " + line, Character.isUpperCase(method.charAt(0)));
            }
        }
    }

    private static void lengths(String code) {
        int depth = 0;
        int begin = 0;
        String[] lines = code.split("\n");
        for (int i = 0; i < lines.length; i++) {
            boolean head = lines[i].matches("^( {4}| {8})\\S.*\\) \\{$");
            if (head && lines[i].indexOf(lines[i].trim()) >= 4 && !lines[i].matches(" +(if|for|while|switch).*")) {
                begin = i;
                depth = lines[i].indexOf(lines[i].trim());
            }
            if (lines[i].matches(" {" + depth + "}\\}")) {
                CHECKS.holds("the method in line " + begin + " is short", i - begin <= LONGEST_METHOD);
            }
            CHECKS.holds("this line is not too long: " + lines[i], lines[i].length() <= 120);
        }
    }
}
