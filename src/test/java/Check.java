import java.io.IOException;
import java.nio.file.Files;
import java.nio.file.Path;
import java.util.ArrayList;
import java.util.List;
import java.util.function.IntSupplier;

/** Tells answers that are not the ones due, and writes tables down for the tests. */
final class Check {
  private final String title;
  private int asked = 0;
  private int wrong = 0;
  private int sentences = 0;
  private String sentence = "";

  Check(String title) {
    this.title = title;
  }

  void due(String what, long got, long want) {
    asked++;
    if (got != want) {
      wrong++;
      System.out.println(title + ": " + sentence + what + " answered " + got + ", due is " + want);
    }
  }

  /** The words of the document that the next answers are held against; they must stand there. */
  void says(String words) {
    sentence = '"' + words + "\": ";
    sentences++;
    due("the document's words", Document.TEXT.isEmpty() || Document.TEXT.contains(words) ? 1 : 0, 1);
  }

  /** The document in one line; empty where it can't be read. */
  private static final class Document {
    static final String TEXT = read(Path.of("../shared/DOC.md"));

    private static String read(Path path) {
      try {
        return Files.isReadable(path) ? Files.readString(path).replaceAll("\\s+", " ") : "";
      } catch (IOException e) {
        return "";
      }
    }
  }

  /** Due are so many answers of one kind: what(0), what(1), .. */
  void row(String what, int[] got, int... want) {
    due(what + " (how many)", got.length, want.length);
    for (int i = 0; i < Math.min(got.length, want.length); i++) {
      due(what + " [" + i + "]", got[i], want[i]);
    }
  }

  /** A call that is refused: what it answers and what is told of it; all else is as it was. */
  void refused(String what, RestBoard x, int by, IntSupplier call) {
    long[] before = told(x);
    int[] counts = refusals(x);
    due(what, call.getAsInt(), by);
    due(what + ": status", x.status(), by);
    int[] after = refusals(x);
    for (int i = 0; i < counts.length; i++) {
      due(what + ": refused by -" + (i + 1), after[i] - counts[i], i + 1 == -by ? 1 : 0);
    }
    same(what, told(x), before);
  }

  /** A call that tells something and changes nothing, not even what is told of refused calls. */
  void asked(String what, RestBoard x, int answer, IntSupplier call) {
    long[] before = told(x);
    int[] counts = refusals(x);
    int status = x.status();
    due(what, call.getAsInt(), answer);
    due(what + ": status", x.status(), status);
    row(what + ": refused", refusals(x), counts);
    same(what, told(x), before);
  }

  /** What is told now is what was told before. */
  void same(String what, long[] got, long[] before) {
    due(what + ": how much is told", got.length, before.length);
    for (int i = 0; i < Math.min(got.length, before.length); i++) {
      if (got[i] != before[i]) {
        due(what + ": what is told, number " + i + ", behind it", got[i], before[i]);
        return;
      }
    }
  }

  private static int[] refusals(RestBoard x) {
    int[] row = new int[7];
    for (int i = 0; i < row.length; i++) {
      row[i] = x.count(14 + i);
    }
    return row;
  }

  /** All that a board tells without being changed, but for refused calls. */
  static long[] told(RestBoard x) {
    List<Long> all = new ArrayList<>();
    addWhatUndoPutsBack(x, all);
    all.add((long) x.fault());
    for (int what = 11; what <= 13; what++) {
      all.add((long) x.count(what));
    }
    for (int what = 0; what <= 22; what++) {
      all.add((long) x.error(what));
    }
    return numbers(all);
  }

  /** The same without the tape, the fault, the latest error, steps, and how many can be undone. */
  static long[] standing(RestBoard x) {
    List<Long> all = new ArrayList<>();
    addWhatUndoPutsBack(x, all);
    return numbers(all);
  }

  private static void addWhatUndoPutsBack(RestBoard x, List<Long> all) {
    all.add((long) x.deepest());
    for (int what = 0; what <= 10; what++) {
      all.add((long) x.count(what));
    }
    for (int node = -1; node <= x.count(0); node++) {
      addNode(x, node, all);
    }
    for (int i = 0; i < 40; i++) {
      all.add((long) x.register(i / 8, i % 8));
    }
    for (int k = 1; k <= 4; k++) {
      all.add((long) x.why(k));
    }
    for (int ago = 0; ago <= 32; ago++) {
      for (int what = 0; what <= 1; what++) {
        all.add((long) x.note(ago, what));
        all.add((long) x.switched(ago, what));
      }
    }
  }

  private static void addNode(RestBoard x, int node, List<Long> all) {
    for (int what = 0; what <= 34; what++) {
      all.add((long) x.node(node, what));
    }
    for (int i = 0; i < x.node(node, 7); i++) {
      all.add((long) x.code(node, i));
    }
    for (int name = 'a'; x.node(node, 0) == 1 && name <= 'z'; name++) {
      all.add((long) x.lookUp(node, name));
    }
    all.add(x.wants(node));
    all.add(x.wanted(node));
    all.add((long) x.order(node));
  }

  private static long[] numbers(List<Long> all) {
    long[] row = new long[all.size()];
    for (int i = 0; i < row.length; i++) {
      row[i] = all.get(i);
    }
    return row;
  }

  void finish() {
    String held = sentences == 0 ? "" : sentences + " sentences, ";
    System.out.println(title + ": " + held + asked + " answers looked at, " + wrong + " wrong");
    if (wrong != 0) {
      System.exit(1);
    }
  }

  /** Numbers and letters as they are, texts letter by letter, rows byte by byte. */
  static int[] bytes(Object... parts) {
    List<Integer> all = new ArrayList<>();
    for (Object part : parts) {
      if (part instanceof Integer number) {
        all.add(number);
      } else if (part instanceof Character letter) {
        all.add((int) letter);
      } else if (part instanceof String text) {
        for (char letter : text.toCharArray()) {
          all.add((int) letter);
        }
      } else if (part instanceof int[] row) {
        for (int number : row) {
          all.add(number);
        }
      } else {
        throw new IllegalStateException("no bytes: " + part);
      }
    }
    int[] row = new int[all.size()];
    for (int i = 0; i < row.length; i++) {
      row[i] = all.get(i);
    }
    return row;
  }

  static int[] device(char name, Object... inside) {
    int[] body = bytes(inside);
    return bytes('D', name, body.length, body);
  }

  static int[] resource(char name, int level, int order) {
    return bytes('R', name, level, order);
  }

  static int[] method(char name, int args, Object... code) {
    int[] body = bytes(code);
    return bytes('M', name, args, body.length, body);
  }

  /** A statement with a block behind its term: 19, 21. */
  static int[] block(int statement, int[] term, Object... inside) {
    int[] body = bytes(inside);
    return bytes(statement, term, body.length, body);
  }

  static int[] otherwise(Object... inside) {
    int[] body = bytes(inside);
    return bytes(20, body.length, body);
  }

  static int[] number(char name, int value) {
    return bytes('N', name, value / 256, value % 256);
  }

  static int[] pack(char name, int... values) {
    int[] row = bytes('P', name, values.length);
    for (int value : values) {
      row = bytes(row, value / 256, value % 256);
    }
    return row;
  }

  static int[] field(char name, int bank, int offset, int width, int rule) {
    return bytes('F', name, bank, offset, width, rule);
  }

  static int[] lock(char name) {
    return bytes('L', name);
  }

  /** Puts the bytes on the tape behind what is there. */
  static void tape(RestBoard x, Object... parts) {
    int[] row = bytes(parts);
    int before = x.count(13);
    for (int i = 0; i < row.length; i += 20) {
      int[] five = new int[5];
      for (int k = 0; k < 20; k++) {
        int value = i + k < row.length ? row[i + k] & 255 : 0;
        five[k / 4] = five[k / 4] << 8 | value;
      }
      x.feed(five[0], five[1], five[2], five[3], five[4]);
    }
    x.end(before + row.length);
  }

  static int load(RestBoard x, int device, Object... parts) {
    tape(x, parts);
    return x.load(device);
  }

  /** A new board with a table below its root. */
  static RestBoard board(Object... parts) {
    RestBoard x = new RestBoard();
    int came = load(x, 0, parts);
    if (came < 0) {
      throw new IllegalStateException("fault at " + x.fault());
    }
    return x;
  }

  /** All of error(0), error(1), then node and place of each method in its trace. */
  static int[] error(RestBoard x) {
    int[] row = new int[2 + 2 * x.error(2)];
    row[0] = x.error(0);
    row[1] = x.error(1);
    for (int i = 2; i < row.length; i++) {
      row[i] = x.error(8 + i);
    }
    return row;
  }

  /** Device and number of each note, the latest first. */
  static int[] notes(RestBoard x) {
    int[] row = new int[2 * x.count(9)];
    for (int i = 0; i < row.length; i++) {
      row[i] = x.note(i / 2, i % 2);
    }
    return row;
  }

  /** Resource and 1 or 0 of each switch, the latest first. */
  static int[] switches(RestBoard x) {
    int[] row = new int[2 * x.count(10)];
    for (int i = 0; i < row.length; i++) {
      row[i] = x.switched(i / 2, i % 2);
    }
    return row;
  }
}
