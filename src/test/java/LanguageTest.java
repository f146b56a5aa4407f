import java.io.IOException;
import java.lang.management.ManagementFactory;
import java.lang.reflect.Constructor;
import java.lang.reflect.Field;
import java.lang.reflect.Method;
import java.lang.reflect.Modifier;
import java.nio.file.Files;
import java.nio.file.Path;
import java.util.ArrayList;
import java.util.List;
import java.util.Set;
import java.util.TreeSet;
import java.util.regex.Matcher;
import java.util.regex.Pattern;

/** The face of the document, and those rules of LANGUAGE.md that can be seen from the text or at run time. */
public final class LanguageTest {
  private static final Check check = new Check("LanguageTest");

  public static void main(String[] args) throws IOException {
    String text = Files.readString(Path.of("src/main/java/RestBoard.java"));
    face();
    words(text);
    methods(text);
    room();
    check.finish();
  }

  private static void face() {
    Set<String> due = new TreeSet<>(List.of("int feed(int,int,int,int,int)", "int end(int)", "int load(int)", "int fault()",
        "int call(int,int,int,int)", "int store(int,int)", "int power(int,int)", "int arm(int)", "int disarm(int)", "int rest(int)",
        "int raise(int)", "int clear(int)", "int undo()", "int node(int,int)", "int code(int,int)", "int lookUp(int,int)",
        "int register(int,int)", "long wants(int)", "long wanted(int)", "int deepest()", "int why(int)", "int order(int)", "int would(int)",
        "int tries(int,int,int,int,int)", "int error(int)", "int note(int,int)", "int switched(int,int)", "int count(int)", "int status()"));
    Set<String> got = new TreeSet<>();
    Set<String> names = new TreeSet<>();
    for (Method method : RestBoard.class.getDeclaredMethods()) {
      if (!Modifier.isPrivate(method.getModifiers())) {
        StringBuilder types = new StringBuilder();
        for (Class<?> type : method.getParameterTypes()) {
          types.append(types.length() == 0 ? "" : ",").append(type.getName());
        }
        got.add(method.getReturnType().getName() + " " + method.getName() + "(" + types + ")");
        names.add(method.getName());
      }
    }
    check.due("the methods " + got + " are those of the document", got.equals(due) ? 1 : 0, 1);
    for (Method method : RestBoard.class.getDeclaredMethods()) {
      boolean hidden = Modifier.isPrivate(method.getModifiers());
      check.due("private " + method.getName() + " has a name of its own", hidden && names.contains(method.getName()) ? 1 : 0, 0);
    }
    Constructor<?>[] constructors = RestBoard.class.getDeclaredConstructors();
    check.due("constructors", constructors.length, 1);
    check.due("it is public", Modifier.isPublic(constructors[0].getModifiers()) ? 1 : 0, 1);
    check.due("the class is public and final", RestBoard.class.getModifiers(), Modifier.PUBLIC | Modifier.FINAL);
    for (Field field : RestBoard.class.getDeclaredFields()) {
      boolean open = !Modifier.isPrivate(field.getModifiers());
      check.due("field " + field.getName(), open ? 1 : 0, field.getName().equals("NONE") ? 1 : 0);
    }
    check.due("classes", RestBoard.class.getDeclaredClasses().length + 1 <= 12 ? 1 : 0, 1);
    for (Class<?> inside : RestBoard.class.getDeclaredClasses()) {
      check.due(inside.getName() + " is static", Modifier.isStatic(inside.getModifiers()) ? 1 : 0, 1);
      int fields = 0;
      for (Field field : inside.getDeclaredFields()) {
        boolean constant = Modifier.isStatic(field.getModifiers());
        fields += constant ? 0 : 1;
        check.due(field + " is final, if static", constant && !Modifier.isFinal(field.getModifiers()) ? 1 : 0, 0);
      }
      check.due(inside.getName() + " has twenty fields at most", fields <= 20 ? 1 : 0, 1);
    }
  }

  private static String withoutComments(String text) {
    return text.replaceAll("(?s)/\\*.*?\\*/", "").replaceAll("//[^\n]*", "");
  }

  private static void words(String text) {
    String code = withoutComments(text);
    for (String word : List.of("throw", "throws", "try", "catch", "finally", "synchronized", "assert", "package", "Object", "Random", "Thread")) {
      check.due("the word " + word, Pattern.compile("\\b" + word + "\\b").matcher(code).find() ? 1 : 0, 0);
    }
    check.due("lambdas, method references", code.contains("->") || code.contains("::") ? 1 : 0, 0);
    Matcher imports = Pattern.compile("import ([\\w.]+);").matcher(code);
    while (imports.find()) {
      check.due("import " + imports.group(1), imports.group(1).equals("java.util.Arrays") ? 1 : 0, 1);
    }
    Matcher library = Pattern.compile("\\b([A-Z][a-z]\\w*)\\.(\\w+)\\(").matcher(code);
    Set<String> listed = Set.of("Math.min", "Math.max", "Integer.bitCount", "Arrays.fill", "System.arraycopy");
    while (library.find()) {
      String call = library.group(1) + "." + library.group(2);
      check.due("the library's " + call, listed.contains(call) ? 1 : 0, 1);
    }
    check.due("texts, doubles, floats", Pattern.compile("\"|\\b(double|float|String)\\b").matcher(code).find() ? 1 : 0, 0);
    check.due("loops without a bound", Pattern.compile("while \\(true\\)|for \\(;|for \\([^;]*;;").matcher(code).find() ? 1 : 0, 0);
    check.due("a static initialiser", Pattern.compile("\\bstatic \\{").matcher(code).find() ? 1 : 0, 0);
    Matcher statics = Pattern.compile("\\bstatic (?!final (?:class|int) )(\\w+ )?\\w+ \\w+ *[=;]").matcher(code);
    check.due("static state but constants of int", statics.find() ? 1 : 0, 0);
    for (char letter : text.toCharArray()) {
      if (letter > 126) {
        check.due("a sign above 126", letter, 0);
      }
    }
  }

  private static void methods(String text) {
    List<String> lines = new ArrayList<>(List.of(text.split("\n")));
    Pattern head = Pattern.compile("^(    |        )\\S.*\\b(\\w+)\\((.*)\\) \\{$");
    for (int i = 0; i < lines.size(); i++) {
      Matcher method = head.matcher(lines.get(i));
      if (!method.matches() || lines.get(i).contains("class ")) {
        continue;
      }
      int last = i;
      while (!lines.get(last).equals(method.group(1) + "}")) {
        last++;
      }
      check.due(method.group(2) + " has sixty lines at most", last - i <= 60 ? 1 : 0, 1);
      check.due(method.group(2) + " takes seven at most", method.group(3).split(",").length <= 7 ? 1 : 0, 1);
    }
  }

  /** Once a board is made, no call makes an object: there is room for as many calls as one likes. */
  private static void room() {
    com.sun.management.ThreadMXBean bean = (com.sun.management.ThreadMXBean) ManagementFactory.getThreadMXBean();
    long thread = Thread.currentThread().getId();
    RestBoard x = Check.board(Check.number('i', 0), Check.resource('a', 1, 1), Check.method('m', 1, 17, 'i', 5, 'n', 0, 26, 4, 'f'),
        Check.method('n', 0, 24, 'l', 22, 0, 0), Check.lock('l'), Check.field('f', 1, 3, 12, 0),
        Check.device('d', Check.pack('p', 'a'), Check.pack('w', 1, 2, 'a'), Check.method('y', 1), Check.method('z', 1, 23, 3, 0)));
    everyCall(x);
    long before = bean.getThreadAllocatedBytes(thread);
    long between = bean.getThreadAllocatedBytes(thread) - before;
    before = bean.getThreadAllocatedBytes(thread);
    for (int i = 0; i < 200; i++) {
      everyCall(x);
    }
    // The measuring itself may make a few; an object by each of 6,200 calls would be a hundred thousand.
    long byCalls = bean.getThreadAllocatedBytes(thread) - before - between;
    check.due("calls made " + byCalls + " bytes, fewer than 2,000", byCalls < 2000 ? 1 : 0, 1);
    before = bean.getThreadAllocatedBytes(thread);
    RestBoard y = new RestBoard();
    long made = bean.getThreadAllocatedBytes(thread) - before - between;
    check.due("a board of " + made + " bytes is small (node " + y.node(0, 0) + ")", made < 100000 ? 1 : 0, 1);
  }

  private static void everyCall(RestBoard x) {
    x.feed('L' << 24 | 'q' << 16, 0, 0, 0, 0);
    x.end(2);
    x.load(0);
    x.fault();
    x.undo();
    x.call(3, 1, 0, 0);
    x.call(99, 1, 0, 0);
    x.store(6, 70);
    x.power(7, 0);
    x.arm(7);
    x.would(1);
    x.tries(3, 1, 0, 0, 2);
    x.rest(1);
    x.raise(1);
    x.clear(1);
    x.disarm(7);
    x.power(7, 3);
    x.node(7, 30);
    x.code(3, 0);
    x.lookUp(7, 'a');
    x.register(1, 0);
    x.wants(7);
    x.wanted(2);
    x.deepest();
    x.why(1);
    x.order(0);
    x.error(0);
    x.note(0, 0);
    x.switched(0, 0);
    x.count(3);
    x.status();
  }
}
