import java.util.Arrays;

/**
 * Tables that can be read, changed at each byte to each value, cut and lengthened at each place: what
 * load() and fault() tell is held against the model, and so are the nodes that came.
 */
public final class FaultTest {
  private static final Check check = new Check("FaultTest");
  private static int read = 0;
  private static int faulty = 0;

  public static void main(String[] args) {
    int[][] tables = {definitions(), statements(), terms(), blocks(), full()};
    for (int[] table : tables) {
      check.due("it can be read", hold(table), -1);
      eachByte(table);
      eachLength(table);
      eachGap(table);
    }
    check.due("some can be read, most can't", read > 1000 && faulty > read ? 1 : 0, 1);
    check.finish();
  }

  private static int[] definitions() {
    return Check.bytes(Check.device('d', Check.resource('a', 4, 9), Check.device('e', Check.number('n', 513), Check.lock('l')), Check.pack('p', 'a', 98)), Check.field('f', 4, 60, 4, 2), Check.device('g'),
        Check.method('m', 2, 22, 3, 1), Check.pack('q'), Check.lock('z'));
  }

  private static int[] statements() {
    return Check.method('m', 1, 16, 3, 0, 1, 17, 'n', 3, 0, 18, 'p', 0, 0, 2, 3, 24, 'l', 25, 'l', 26, 4, 'n', 23, 9, 'a', 28, 1, 2, 3, 22, 0, 255);
  }

  private static int[] terms() {
    return Check.bytes(Check.method('m', 3, 22, 7, 9, 5, 'f', 3, 0, 1, 8, 3, 2, 6, 'p', 7, 0, 2, 0, 4, 'n', 1, 16, 27), Check.method('n', 0, 23, 8, 8, 8, 8, 8, 8, 8, 9, 'r'));
  }

  private static int[] blocks() {
    int[] one = {0, 1};
    return Check.bytes(Check.device('d', Check.method('m', 0, Check.block(19, one, 24, 'l', Check.block(21, one, 27, Check.block(19, one, 27), Check.otherwise(27))), Check.otherwise(25, 'l', Check.block(19, one, 22, one)), 22, one)), "Lx");
  }

  /** 32 nodes: one more is a fault. */
  private static int[] full() {
    int[] row = {};
    for (int i = 0; i < 25; i++) {
      row = Check.bytes(row, 'L', 'a' + i);
    }
    return Check.bytes(row, Check.device('z', "La", "Lb", "Lc", "Ld", "Le"));
  }

  /** The place of its fault, if the board and the model tell the same of a table. */
  private static int hold(int[] table) {
    RestBoard board = new RestBoard();
    Model model = new Model();
    for (int i = 0; i < table.length; i += 20) {
      int[] five = new int[5];
      for (int k = 0; k < 20; k++) {
        five[k / 4] = five[k / 4] << 8 | (i + k < table.length ? table[i + k] & 255 : 0);
      }
      board.feed(five[0], five[1], five[2], five[3], five[4]);
      model.feed(five);
    }
    board.end(table.length);
    model.end(table.length);
    String what = Arrays.toString(table);
    int came = model.load(0);
    check.due("load of " + what, board.load(0), came);
    check.due("fault of " + what, board.fault(), model.fault);
    check.due("nodes of " + what, board.count(0), model.count(0));
    for (int node = 0; came > 0 && node <= came; node++) {
      for (int k = 0; k <= 23; k++) {
        check.due("node " + node + " of " + what, board.node(node, k), model.node(node, k));
      }
    }
    read += model.fault == -1 ? 1 : 0;
    faulty += model.fault == -1 ? 0 : 1;
    return model.fault;
  }

  private static void eachByte(int[] table) {
    for (int at = 0; at < table.length; at++) {
      for (int value = 0; value <= 255; value++) {
        int[] other = table.clone();
        other[at] = value;
        hold(other);
      }
    }
  }

  private static void eachLength(int[] table) {
    for (int length = 0; length < table.length; length++) {
      hold(Arrays.copyOf(table, length));
    }
  }

  /** A byte taken out, or a few put in, makes what is behind it something else. */
  private static void eachGap(int[] table) {
    int[] more = {0, 1, 8, 16, 19, 20, 21, 22, 27, 60, 'D', 'L', 'M', 'P', 'a', 'x', 255};
    for (int at = 0; at < table.length; at++) {
      int[] behind = Arrays.copyOfRange(table, at, table.length);
      int[] ahead = Arrays.copyOf(table, at);
      hold(Check.bytes(ahead, Arrays.copyOfRange(behind, 1, behind.length)));
      for (int value : more) {
        hold(Check.bytes(ahead, value, behind));
      }
    }
  }
}
