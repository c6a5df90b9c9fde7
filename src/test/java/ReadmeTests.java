import java.lang.reflect.Method;
import java.lang.reflect.Modifier;
import java.nio.file.Files;
import java.nio.file.Path;
import java.util.ArrayList;
import java.util.List;
import java.util.regex.Matcher;
import java.util.regex.Pattern;

/** README.md: each line of its examples answers what stands behind it, and each call of the face is named. */
public final class ReadmeTests {
    private static final String MAKE = "HeatPumpPlant plant = new HeatPumpPlant();";
    private static final Pattern CALL = Pattern.compile("plant\\.(\\w+)\\(([-0-9, ]*)\\); +// (-?[0-9.]*[0-9])(?:$|[ :].*)");
    private static final Pattern TYPE =
            Pattern.compile("for \\(char one : \"([^\"]*)\"\\.toCharArray\\(\\)\\) plant\\.type\\(one\\);");

    private static final Checks CHECKS = new Checks();

    private ReadmeTests() {
    }

    public static void main(String[] args) throws Exception {
        List<String> lines = Files.readAllLines(Path.of("README.md"));
        carryOut(examples(lines));
        namesEachCall(String.join("\n", lines));
        CHECKS.end("ReadmeTests");
    }

    private static List<String> examples(List<String> lines) {
        List<String> examples = new ArrayList<>();
        boolean inside = false;
        for (String line : lines) {
            if (line.startsWith("```")) {
                inside = line.equals("```java");
            } else if (inside) {
                examples.add(line);
            }
        }
        CHECKS.holds("there are examples", examples.size() >= 20);
        CHECKS.holds("the first line makes a plant", examples.indexOf(MAKE) == 0);
        return examples;
    }

    private static void carryOut(List<String> examples) throws Exception {
        HeatPumpPlant plant = new HeatPumpPlant();
        for (String line : examples.subList(1, examples.size())) {
            Matcher call = CALL.matcher(line);
            Matcher type = TYPE.matcher(line);
            if (call.matches()) {
                Object got = answer(plant, call.group(1), call.group(2));
                CHECKS.holds(line + " - it answered " + got, String.valueOf(got).equals(call.group(3)));
            } else if (type.matches()) {
                for (char one : type.group(1).toCharArray()) {
                    CHECKS.holds(line, plant.type(one) > 0);
                }
            } else {
                CHECKS.holds("this line can be carried out: " + line, false);
            }
        }
    }

    private static Object answer(HeatPumpPlant plant, String name, String list) throws Exception {
        String[] words = list.isBlank() ? new String[0] : list.split(", ");
        Class<?>[] types = new Class<?>[words.length];
        Object[] values = new Object[words.length];
        for (int i = 0; i < words.length; i++) {
            types[i] = int.class;
            values[i] = Integer.valueOf(words[i]);
        }
        return HeatPumpPlant.class.getMethod(name, types).invoke(plant, values);
    }

    private static void namesEachCall(String readme) {
        for (Method method : HeatPumpPlant.class.getDeclaredMethods()) {
            if (Modifier.isPublic(method.getModifiers())) {
                String end = method.getParameterCount() == 0 ? "\\(\\)`" : "\\(\\w+(, \\w+)?\\)`";
                Pattern named = Pattern.compile("\\|.*`" + method.getName() + end + ".*\\|.*\\|");
                CHECKS.holds(method.getName() + " stands in the table", named.matcher(readme).find());
            }
        }
    }
}
