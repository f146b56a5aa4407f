import java.io.IOException;
import java.lang.reflect.InvocationTargetException;
import java.lang.reflect.Method;
import java.lang.reflect.Modifier;
import java.nio.file.Files;
import java.nio.file.Path;
import java.util.regex.Matcher;
import java.util.regex.Pattern;

/** Makes the calls of README.md, one behind the other, and holds them against what stands behind them there. */
public final class ReadmeTest {
  private static final Pattern BLOCK = Pattern.compile("(?s)```java\n(.*?)```");
  private static final Pattern CALL = Pattern.compile("x\\.(\\w+)\\(([^)]*)\\);\\s*// (-?\\d+)\\b.*");
  private static final Check check = new Check("ReadmeTest");

  public static void main(String[] args) throws IOException, ReflectiveOperationException {
    String page = Files.readString(Path.of("README.md"));
    calls(page);
    names(page);
    check.finish();
  }

  private static void calls(String page) throws ReflectiveOperationException {
    RestBoard x = new RestBoard();
    int made = 0;
    Matcher block = BLOCK.matcher(page);
    while (block.find()) {
      for (String line : block.group(1).split("\n")) {
        if (!line.equals("RestBoard x = new RestBoard();")) {
          callOf(x, line);
          made++;
        }
      }
    }
    check.due("some calls stand there", made > 50 ? 1 : 0, 1);
  }

  private static void callOf(RestBoard x, String line) throws ReflectiveOperationException {
    Matcher call = CALL.matcher(line);
    if (!call.matches()) {
      check.due("a call with its answer: " + line, 0, 1);
      return;
    }
    String[] texts = call.group(2).isEmpty() ? new String[0] : call.group(2).split(", ");
    Object[] numbers = new Object[texts.length];
    for (int i = 0; i < texts.length; i++) {
      numbers[i] = number(texts[i]);
    }
    check.due(line, answer(x, call.group(1), numbers), Long.parseLong(call.group(3)));
  }

  private static int number(String text) {
    if (text.startsWith("'")) {
      return text.charAt(1);
    }
    return text.startsWith("0x") ? Integer.parseUnsignedInt(text.substring(2), 16) : Integer.parseInt(text);
  }

  private static long answer(RestBoard x, String name, Object[] numbers)
      throws IllegalAccessException, InvocationTargetException {
    for (Method method : RestBoard.class.getDeclaredMethods()) {
      if (method.getName().equals(name) && Modifier.isPublic(method.getModifiers())) {
        return ((Number) method.invoke(x, numbers)).longValue();
      }
    }
    throw new IllegalStateException("no such call: " + name);
  }

  private static void names(String page) {
    for (Method method : RestBoard.class.getDeclaredMethods()) {
      if (Modifier.isPublic(method.getModifiers())) {
        check.due("it names " + method.getName(), page.contains(method.getName() + "(") ? 1 : 0, 1);
      }
    }
  }
}
