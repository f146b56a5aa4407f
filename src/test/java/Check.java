import java.util.ArrayList;
import java.util.List;

/** Tells answers that are not the ones due, and writes tables down for the tests. */
final class Check {
  private final String title;
  private int asked = 0;
  private int wrong = 0;

  Check(String title) {
    this.title = title;
  }

  void due(String what, long got, long want) {
    asked++;
    if (got != want) {
      wrong++;
      System.out.println(title + ": " + what + " answered " + got + ", due is " + want);
    }
  }

  /** Due are so many answers of one kind: what(0), what(1), .. */
  void row(String what, int[] got, int... want) {
    due(what + " (how many)", got.length, want.length);
    for (int i = 0; i < Math.min(got.length, want.length); i++) {
      due(what + " [" + i + "]", got[i], want[i]);
    }
  }

  void finish() {
    System.out.println(title + ": " + asked + " answers looked at, " + wrong + " wrong");
    if (wrong != 0) {
      System.exit(1);
    }
  }

  /** Numbers and letters as they are, texts letter by letter, rows byte by byte. */
  static int[] bytes(Object... parts) {
    List<Integer> all = new ArrayList<>();
    for (Object part : parts) {
      if (part instanceof Integer number) {
        all.add(number);
      } else if (part instanceof Character letter) {
        all.add((int) letter);
      } else if (part instanceof String text) {
        for (char letter : text.toCharArray()) {
          all.add((int) letter);
        }
      } else if (part instanceof int[] row) {
        for (int number : row) {
          all.add(number);
        }
      } else {
        throw new IllegalStateException("no bytes: " + part);
      }
    }
    int[] row = new int[all.size()];
    for (int i = 0; i < row.length; i++) {
      row[i] = all.get(i);
    }
    return row;
  }

  static int[] device(char name, Object... inside) {
    int[] body = bytes(inside);
    return bytes('D', name, body.length, body);
  }

  static int[] resource(char name, int level, int order) {
    return bytes('R', name, level, order);
  }

  static int[] method(char name, int args, Object... code) {
    int[] body = bytes(code);
    return bytes('M', name, args, body.length, body);
  }

  /** A statement with a block behind its term: 19, 21. */
  static int[] block(int statement, int[] term, Object... inside) {
    int[] body = bytes(inside);
    return bytes(statement, term, body.length, body);
  }

  static int[] otherwise(Object... inside) {
    int[] body = bytes(inside);
    return bytes(20, body.length, body);
  }

  static int[] number(char name, int value) {
    return bytes('N', name, value / 256, value % 256);
  }

  static int[] pack(char name, int... values) {
    int[] row = bytes('P', name, values.length);
    for (int value : values) {
      row = bytes(row, value / 256, value % 256);
    }
    return row;
  }

  static int[] field(char name, int bank, int offset, int width, int rule) {
    return bytes('F', name, bank, offset, width, rule);
  }

  static int[] lock(char name) {
    return bytes('L', name);
  }

  /** Puts the bytes on the tape behind what is there. */
  static void tape(RestBoard x, Object... parts) {
    int[] row = bytes(parts);
    int before = x.count(13);
    for (int i = 0; i < row.length; i += 20) {
      int[] five = new int[5];
      for (int k = 0; k < 20; k++) {
        int value = i + k < row.length ? row[i + k] & 255 : 0;
        five[k / 4] = five[k / 4] << 8 | value;
      }
      x.feed(five[0], five[1], five[2], five[3], five[4]);
    }
    x.end(before + row.length);
  }

  static int load(RestBoard x, int device, Object... parts) {
    tape(x, parts);
    return x.load(device);
  }

  /** A new board with a table below its root. */
  static RestBoard board(Object... parts) {
    RestBoard x = new RestBoard();
    int came = load(x, 0, parts);
    if (came < 0) {
      throw new IllegalStateException("fault at " + x.fault());
    }
    return x;
  }

  /** All of error(0), error(1), then node and place of each method in its trace. */
  static int[] error(RestBoard x) {
    int[] row = new int[2 + 2 * x.error(2)];
    row[0] = x.error(0);
    row[1] = x.error(1);
    for (int i = 2; i < row.length; i++) {
      row[i] = x.error(8 + i);
    }
    return row;
  }

  /** Device and number of each note, the latest first. */
  static int[] notes(RestBoard x) {
    int[] row = new int[2 * x.count(9)];
    for (int i = 0; i < row.length; i++) {
      row[i] = x.note(i / 2, i % 2);
    }
    return row;
  }

  /** Resource and 1 or 0 of each switch, the latest first. */
  static int[] switches(RestBoard x) {
    int[] row = new int[2 * x.count(10)];
    for (int i = 0; i < row.length; i++) {
      row[i] = x.switched(i / 2, i % 2);
    }
    return row;
  }
}
