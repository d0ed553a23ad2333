import java.lang.reflect.Method;
import java.nio.file.Files;
import java.nio.file.Path;
import java.util.regex.Matcher;
import java.util.regex.Pattern;

/** The calls that README.md shows, with the answers that it tells. */
public final class ReadmeTest {
    private static final Pattern BLOCK = Pattern.compile("```java\n(.*?)```", Pattern.DOTALL);
    private static final Pattern CALL = Pattern.compile("road\\.(\\w+)\\((.*)\\); +// (\\S+)");

    public static void main(String[] args) throws Exception {
        Matcher block = BLOCK.matcher(Files.readString(Path.of("README.md")));
        Check.due("README.md has an example", block.find(), true);
        RoadWear road = new RoadWear();
        for (String line : block.group(1).split("\n")) {
            Matcher call = CALL.matcher(line);
            boolean isOther = line.startsWith("//") || line.equals("RoadWear road = new RoadWear();");
            Check.due("a line of the example: " + line, call.matches(), !isOther);
            if (!isOther && call.matches()) {
                Check.due(line, String.valueOf(answer(road, call.group(1), call.group(2))), call.group(3));
            }
        }
        Check.finish("ReadmeTest");
    }

    private static Object answer(RoadWear road, String name, String arguments) throws Exception {
        String[] words = arguments.isEmpty() ? new String[0] : arguments.split(", ");
        Object[] numbers = new Object[words.length];
        for (int index = 0; index < words.length; index++) {
            numbers[index] = number(words[index]);
        }
        for (Method method : RoadWear.class.getMethods()) {
            if (method.getName().equals(name) && method.getParameterCount() == numbers.length) {
                return method.invoke(road, numbers);
            }
        }
        return "there is no such method";
    }

    private static int number(String word) throws Exception {
        if (word.startsWith("RoadWear.")) {
            return RoadWear.class.getField(word.substring("RoadWear.".length())).getInt(null);
        }
        return Integer.decode(word);
    }
}
