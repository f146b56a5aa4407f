import java.util.ArrayList;
import java.util.List;
import java.util.Random;

/**
 * Holds the board against the model: random tables and random calls of all promises, the same ones each
 * time; behind each call all that both tell must be alike.
 */
public final class ModelTest {
  private static final int BOARDS = 1500;
  private static final int CALLS = 120;

  private final Random random;
  private final int seed;
  private final RestBoard board = new RestBoard();
  private final Model model = new Model();
  private final List<String> calls = new ArrayList<>();
  private static int[] seen = new int[64];

  private ModelTest(int seed) {
    this.seed = seed;
    this.random = new Random(seed);
  }

  public static void main(String[] args) {
    int from = args.length > 0 ? Integer.parseInt(args[0]) : 0;
    int behind = args.length > 1 ? Integer.parseInt(args[1]) : BOARDS;
    for (int i = from; i < behind; i++) {
      if (!new ModelTest(i).holds()) {
        System.exit(1);
      }
    }
    StringBuilder answers = new StringBuilder();
    for (int i = 0; i < 8; i++) {
      answers.append(i == 0 ? "" : ", ").append(i == 0 ? "fine" : "-" + i).append(' ').append(seen[i]);
    }
    StringBuilder errors = new StringBuilder();
    for (int i = 1; i <= 8; i++) {
      errors.append(' ').append(i).append(": ").append(seen[10 + i]);
    }
    System.out.println("ModelTest: " + (behind - from) + " boards alike; calls " + answers + "; errors" + errors
        + "; rests " + seen[20] + ", waking " + seen[21] + ", taken back " + seen[22]);
  }

  private boolean same(String what, long got, long want) {
    if (got == want) {
      return true;
    }
    System.out.println("board " + seed + ":");
    for (String call : calls) {
      System.out.println("  " + call);
    }
    System.out.println("  " + what + " answered " + got + ", the model " + want);
    return false;
  }

  private boolean holds() {
    boolean rich = chance(88);
    if (!table(0, rich ? new Writer(random).richTable() : new Writer(random).table())) {
      return false;
    }
    for (int i = 0; i < CALLS; i++) {
      if (!act() || !alike()) {
        return false;
      }
    }
    return true;
  }

  private int pick(int behind) {
    return random.nextInt(behind);
  }

  private boolean chance(int percent) {
    return pick(100) < percent;
  }

  private int pickNode() {
    return pick(20) == 0 ? pick(40) - 4 : pick(model.count(0));
  }

  private int pickKind(int kind) {
    List<Integer> all = new ArrayList<>();
    for (int i = 0; i < model.count(0); i++) {
      if (model.node(i, 0) == kind) {
        all.add(i);
      }
    }
    return all.isEmpty() || chance(5) ? pickNode() : all.get(pick(all.size()));
  }

  private int pickValue() {
    return chance(3) ? -1 : chance(3) ? 65536 : chance(60) ? pick(5) : chance(50) ? pick(65536) : 'a' + pick(6);
  }

  private boolean act() {
    int dice = pick(100);
    if (model.count(2) > 0 && chance(60)) {
      dice = chance(70) ? 80 : 95;
    }
    if (dice >= 77 && dice < 84 && model.count(2) == 0 && chance(70)) {
      // Lines that stay raised would keep the board from its rest.
      dice = 84;
    }
    if (dice >= 91 && model.count(12) < 5 && chance(90)) {
      // The first table is seldom undone, as nothing would be left.
      dice = 60;
    }
    if (dice < 6) {
      return table(chance(50) ? 0 : pickKind(1), damaged(new Writer(random).table()));
    } else if (dice < 26) {
      int method = pickKind(3);
      int a = pickValue();
      int b = pickValue();
      int c = pickValue();
      for (int what = -1; what <= 5; what++) {
        if (!same("tries(" + method + ", " + a + ", " + b + ", " + c + ", " + what + ")", board.tries(method, a, b, c, what),
            model.tries(method, a, b, c, what))) {
          return false;
        }
      }
      if (chance(15)) {
        return true;
      }
      return told("call(" + method + ", " + a + ", " + b + ", " + c + ")", board.call(method, a, b, c), model.call(method, a, b, c));
    } else if (dice < 34) {
      int node = chance(50) ? pickKind(4) : pickKind(6);
      int value = pickValue();
      return told("store(" + node + ", " + value + ")", board.store(node, value), model.store(node, value));
    } else if (dice < 58) {
      int device = pickKind(1);
      int power = pick(30) == 0 ? pick(8) - 2 : pick(4);
      return told("power(" + device + ", " + power + ")", board.power(device, power), model.power(device, power));
    } else if (dice < 64) {
      int device = pickKind(1);
      return told("arm(" + device + ")", board.arm(device), model.arm(device));
    } else if (dice < 67) {
      int device = pickKind(1);
      return told("disarm(" + device + ")", board.disarm(device), model.disarm(device));
    } else if (dice < 77) {
      int k = chance(5) ? pick(7) - 1 : 1 + pick(4);
      if (!same("would(" + k + ")", board.would(k), model.would(k))) {
        return false;
      }
      if (chance(10)) {
        return true;
      }
      int result = model.rest(k);
      seen[20] += result >= 0 ? 1 : 0;
      seen[22] += result == -5 || result == -7 ? 1 : 0;
      return told("rest(" + k + ")", board.rest(k), result);
    } else if (dice < 84) {
      int line = chance(5) ? pick(12) - 2 : pick(3);
      boolean rested = model.count(2) > 0;
      int result = model.raise(line);
      seen[21] += rested && model.count(2) == 0 ? 1 : 0;
      return told("raise(" + line + ")", board.raise(line), result);
    } else if (dice < 91) {
      int line = chance(5) ? pick(12) - 2 : pick(3);
      return told("clear(" + line + ")", board.clear(line), model.clear(line));
    }
    return told("undo()", board.undo(), model.undo());
  }

  private boolean told(String call, int got, int want) {
    calls.add(call + " -> " + want);
    seen[want >= 0 ? 0 : -want]++;
    seen[10] = 0;
    if (want == -7) {
      seen[10 + model.error(0)]++;
    }
    return same(call, got, want);
  }

  private int[] damaged(int[] row) {
    if (chance(12) && row.length > 0) {
      row[pick(row.length)] = chance(50) ? pick(256) : pick(30);
    }
    return chance(6) && row.length > 0 ? java.util.Arrays.copyOf(row, pick(row.length)) : row;
  }

  private boolean table(int device, int[] row) {
    calls.add("table " + java.util.Arrays.toString(row));
    for (int i = 0; i < row.length; i += 20) {
      int[] five = new int[5];
      for (int k = 0; k < 20; k++) {
        five[k / 4] = five[k / 4] << 8 | (i + k < row.length ? row[i + k] : 0);
      }
      if (!same("feed", board.feed(five[0], five[1], five[2], five[3], five[4]), model.feed(five))) {
        return false;
      }
    }
    if (!same("end", board.end(row.length), model.end(row.length))) {
      return false;
    }
    return told("load(" + device + ")", board.load(device), model.load(device)) && same("fault", board.fault(), model.fault);
  }

  private boolean alike() {
    boolean alike = same("status()", board.status(), model.status);
    for (int i = -1; i <= 21 && alike; i++) {
      alike = same("count(" + i + ")", board.count(i), model.count(i)) && same("error(" + i + ")", board.error(i), model.error(i));
    }
    int nodes = model.count(0);
    for (int i = -1; i <= nodes && alike; i++) {
      for (int what = -1; what <= 34 && alike; what++) {
        alike = same("node(" + i + ", " + what + ")", board.node(i, what), model.node(i, what));
      }
      alike = alike && same("wants(" + i + ")", board.wants(i), model.wants(i)) && same("wanted(" + i + ")", board.wanted(i), model.wanted(i))
          && same("order(" + i + ")", board.order(i), model.order(i));
      int at = pick(62) - 1;
      int name = chance(10) ? pick(200) : 'a' + pick(26);
      alike = alike && same("code(" + i + ", " + at + ")", board.code(i, at), model.code(i, at))
          && same("lookUp(" + i + ", " + name + ")", board.lookUp(i, name), model.lookUp(i, name));
    }
    for (int i = -1; i <= 5 && alike; i++) {
      alike = same("why(" + i + ")", board.why(i), model.why(i));
      for (int k = -1; k <= 8 && alike; k++) {
        alike = same("register(" + i + ", " + k + ")", board.register(i, k), model.register(i, k));
      }
    }
    for (int ago = -1; ago <= 32 && alike; ago++) {
      for (int what = -1; what <= 2 && alike; what++) {
        alike = same("note(" + ago + ", " + what + ")", board.note(ago, what), model.note(ago, what))
            && same("switched(" + ago + ", " + what + ")", board.switched(ago, what), model.switched(ago, what));
      }
    }
    return alike && same("deepest()", board.deepest(), model.deepest());
  }

  /** Writes tables that are mostly right and in which names often mean something. */
  private static final class Writer {
    private final Random random;

    Writer(Random random) {
      this.random = random;
    }

    private int pick(int behind) {
      return random.nextInt(behind);
    }

    private char from(String letters) {
      return letters.charAt(pick(letters.length()));
    }

    private char name(String usual) {
      return pick(12) == 0 ? (char) ('a' + pick(26)) : from(usual);
    }

    /** All names that mean something to rest, so that most calls are not refused. */
    int[] richTable() {
      int[] row = {};
      for (char name : "abef".toCharArray()) {
        row = Check.bytes(row, Check.resource(name, pick(2) == 0 ? pick(5) : 4, pick(4)));
      }
      for (char name : "ijkl".toCharArray()) {
        row = pick(6) == 0 ? row : Check.bytes(row, Check.number(name, pick(4) == 0 ? pick(5) : 0));
      }
      row = Check.bytes(row, Check.field('g', pick(5), pick(50), 1 + pick(14), pick(3)), Check.lock('s'));
      row = Check.bytes(row, Check.number('x', pick(3)), Check.method('m', 1, code(1, 20)));
      int shape = pick(3);
      row = Check.bytes(row, richDevice('d', shape == 0 ? 1 : 0));
      return shape == 0 ? row : Check.bytes(row, richDevice('h', 0));
    }

    private int[] richDevice(char name, int deep) {
      int[] body = {};
      for (char own : "pqr".toCharArray()) {
        body = pick(3) == 0 ? body : Check.bytes(body, Check.pack(own, names(pick(4))));
      }
      if (pick(4) != 0) {
        body = Check.bytes(body, Check.pack('w', Check.bytes(pick(3), 3 + pick(2), names(pick(2)))));
      }
      for (char own : "czy".toCharArray()) {
        body = pick(2) == 0 ? body : Check.bytes(body, Check.method(own, 1, code(1, 12)));
      }
      return Check.device(name, deep == 0 ? body : Check.bytes(body, richDevice('d', deep - 1)));
    }

    private int[] names(int many) {
      int[] row = new int[many];
      for (int i = 0; i < many; i++) {
        row[i] = from("abef");
      }
      return row;
    }

    int[] table() {
      int[] row = {};
      int many = 1 + pick(10);
      StringBuilder taken = new StringBuilder();
      for (int i = 0; i < many; i++) {
        int[] more = definition(0, taken);
        if (row.length + more.length <= 380) {
          row = Check.bytes(row, more);
        }
      }
      return row;
    }

    private char fresh(String usual, StringBuilder taken) {
      char name = name(usual);
      for (int i = 0; i < 6 && taken.indexOf("" + name) >= 0; i++) {
        name = i < 3 ? name(usual) : (char) ('a' + pick(26));
      }
      taken.append(name);
      return name;
    }

    private int[] definition(int deep, StringBuilder taken) {
      int dice = pick(100);
      if (dice < 28 && deep < 4) {
        return device(deep, taken);
      } else if (dice < 40) {
        return Check.resource(fresh("abef", taken), pick(3) == 0 ? pick(5) : 4, pick(10));
      } else if (dice < 58) {
        boolean own = pick(2) == 0;
        int args = own ? 1 : pick(4);
        return Check.method(fresh(own ? "czy" : "mno", taken), args, code(args, pick(5) == 0 ? 60 : 25));
      } else if (dice < 74) {
        return Check.number(fresh("ijkluvx", taken), pick(4) == 0 ? pick(65536) : pick(5));
      } else if (dice < 88) {
        return pack(taken);
      } else if (dice < 95) {
        int offset = pick(64);
        return Check.field(fresh("gh", taken), pick(5), offset, 1 + pick(Math.min(16, 64 - offset)), pick(3));
      }
      return Check.lock(fresh("st", taken));
    }

    private int[] device(int deep, StringBuilder taken) {
      char name = fresh("dgh", taken);
      int[] body = {};
      StringBuilder inside = new StringBuilder();
      int many = pick(7);
      for (int i = 0; i < many; i++) {
        int[] more = definition(deep + 1, inside);
        if (body.length + more.length < 120) {
          body = Check.bytes(body, more);
        }
      }
      return Check.device(name, body);
    }

    private int[] pack(StringBuilder taken) {
      char name = fresh("ppqrww", taken);
      int[] values = new int[name == 'w' ? 2 + pick(4) : pick(5)];
      for (int i = 0; i < values.length; i++) {
        values[i] = pick(15) == 0 ? pick(300) : from("abef");
      }
      if (name == 'w' && pick(10) != 0) {
        values[0] = pick(3);
        values[1] = 1 + pick(4);
      }
      return Check.pack(name, values);
    }

    private int[] code(int args, int room) {
      int[] row = {};
      int many = 1 + pick(4);
      for (int i = 0; i < many; i++) {
        int[] more = statement(args, 0, false);
        if (row.length + more.length <= room) {
          row = Check.bytes(row, more);
        }
      }
      return row;
    }

    private int[] block(int args, int deep, boolean looped) {
      int[] row = {};
      int many = pick(3);
      for (int i = 0; i < many; i++) {
        row = Check.bytes(row, statement(args, deep + 1, looped));
      }
      return row;
    }

    private int[] statement(int args, int deep, boolean looped) {
      int dice = pick(deep > 2 ? 70 : 100);
      if (dice < 12) {
        return Check.bytes(16, pick(4), term(args, 1));
      } else if (dice < 28) {
        return Check.bytes(17, name(pick(4) == 0 ? "uvh" : "ijklxg"), term(args, 1));
      } else if (dice < 36) {
        int[] value = pick(4) == 0 ? term(args, 1) : new int[] {0, pick(3) == 0 ? pick(5) : from("abef")};
        return Check.bytes(18, name("pqrw"), pick(3) == 0 ? term(args, 5) : new int[] {0, pick(3)}, value);
      } else if (dice < 42) {
        return Check.bytes(22, term(args, 1));
      } else if (dice < 46) {
        return Check.bytes(23, term(args, 1));
      } else if (dice < 52) {
        return Check.bytes(24, name("st"));
      } else if (dice < 56) {
        return Check.bytes(25, name("st"));
      } else if (dice < 63) {
        return Check.bytes(26, term(args, 1));
      } else if (dice < 68) {
        return looped ? new int[] {27} : Check.bytes(26, term(args, 1));
      } else if (dice < 70) {
        return Check.bytes(28, term(args, 1));
      } else if (dice < 88) {
        int[] row = Check.block(19, term(args, 1), block(args, deep, looped));
        return pick(2) == 0 ? row : Check.bytes(row, Check.otherwise(block(args, deep, looped)));
      } else if (dice < 96) {
        // A loop that counts down mostly ends.
        int local = pick(4);
        return Check.bytes(16, local, 0, pick(5), Check.block(21, new int[] {2, local}, block(args, deep, true),
            16, local, 7, 1, 2, local, 0, 1));
      }
      return Check.block(21, term(args, 1), block(args, deep, true));
    }

    private int[] term(int args, int deep) {
      int dice = pick(deep > 3 ? 62 : 100);
      if (pick(20) == 0 && deep < 8) {
        return Check.bytes(8, term(args, deep + 1));
      }
      if (dice < 20) {
        return Check.bytes(0, pick(3) == 0 ? pick(256) : pick(4));
      } else if (dice < 24) {
        return Check.bytes(1, pick(256), pick(256));
      } else if (dice < 34) {
        return Check.bytes(2, pick(4));
      } else if (dice < 46) {
        return args == 0 ? Check.bytes(2, pick(4)) : Check.bytes(3, pick(args));
      } else if (dice < 58) {
        return Check.bytes(4, name(pick(4) == 0 ? "uvh" : "ijklxg"));
      } else if (dice < 62) {
        return Check.bytes(9, name("abef"));
      } else if (dice < 72) {
        int many = pick(4);
        int[] row = Check.bytes(5, name("mnoczy"), many);
        for (int i = 0; i < many; i++) {
          row = Check.bytes(row, term(args, deep + 1));
        }
        return row;
      } else if (dice < 77) {
        return Check.bytes(6, name("pqrw"), term(args, deep + 2));
      } else if (dice < 94) {
        return Check.bytes(7, pick(10), term(args, deep + 1), term(args, deep + 1));
      }
      return Check.bytes(8, term(args, deep + 1));
    }
  }
}
