import java.io.IOException;
import java.lang.reflect.Field;
import java.lang.reflect.Method;
import java.lang.reflect.Modifier;
import java.nio.file.Files;
import java.nio.file.Path;
import java.util.HashMap;
import java.util.Map;
import java.util.regex.Matcher;
import java.util.regex.Pattern;

/** What README.md says of the use of the class is so. */
public final class ReadmeTest {
  private static final Pattern CALL =
      Pattern.compile("(?:int (\\w+) = )?pool\\.(\\w+)\\((.*)\\);(?:\\s*// ([-\\w]+).*)?");
  private static final int LEAST_CALLS = 20;

  private static final Check CHECK = new Check();

  public static void main(String[] args) throws IOException {
    String text = Files.readString(Path.of("README.md"));
    example(text);
    names(text);
    CHECK.end();
  }

  private static void example(String text) {
    int start = text.indexOf("```java\n") + "```java\n".length();
    String[] lines = text.substring(start, text.indexOf("```", start)).split("\n");
    Run run = new Run(CHECK, "README.md");
    Map<String, String> numbers = new HashMap<>();
    int calls = 0;
    for (String line : lines) {
      Matcher call = CALL.matcher(line);
      if (call.matches()) {
        calls++;
        one(run, call, numbers);
      } else {
        CHECK.due("no call: " + line, line.isEmpty() || line.contains("new NotePool()"), true);
      }
    }
    CHECK.due("the example has its calls", calls >= LEAST_CALLS, true);
  }

  private static void one(Run run, Matcher call, Map<String, String> numbers) {
    String told = call.group(2);
    for (String argument : call.group(3).split(", *")) {
      told += " " + numbers.getOrDefault(argument, argument);
    }
    if (call.group(1) != null) {
      numbers.put(call.group(1), call.group(4));
    }
    run.does(call.group(4) == null ? told : told + " = " + call.group(4));
  }

  private static void names(String text) {
    for (Method method : NotePool.class.getDeclaredMethods()) {
      if (Modifier.isPublic(method.getModifiers())) {
        CHECK.due("named: " + method.getName(), isTold(text, method), true);
      }
    }
    for (Field field : NotePool.class.getDeclaredFields()) {
      if (Modifier.isPublic(field.getModifiers())) {
        CHECK.due("named: " + field.getName(), text.contains("`" + field.getName() + "`"), true);
      }
    }
  }

  /** A call is told as its name with as many arguments as it takes. */
  private static boolean isTold(String text, Method method) {
    Matcher told = Pattern.compile("`" + method.getName() + "\\(([^)]*)\\)`").matcher(text);
    if (!told.find()) {
      return false;
    }
    String arguments = told.group(1);
    int count = arguments.isEmpty() ? 0 : arguments.split(",").length;
    return count == method.getParameterCount();
  }
}
