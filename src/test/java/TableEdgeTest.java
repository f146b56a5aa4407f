/** The edges that 'Terms' I and promises 1 to 5 name: nodes, the tape, tables, each kind of fault and its place. */
public final class TableEdgeTest {
  private static final Check check = new Check("TableEdgeTest");

  public static void main(String[] args) {
    theRoot();
    nodes();
    letters();
    names();
    resources();
    methods();
    numbers();
    packages();
    fields();
    twoOfOneName();
    lookingUp();
    emptyTable();
    termNumbers();
    calledWith();
    namesInCode();
    termsDeep();
    termsBegin();
    statementsBegin();
    endsTooSoon();
    bytesOfDevicesAreOver();
    bytesOfCodeAreOver();
    beyondWhatIsAround();
    outOfALoop();
    otherwise();
    blocksInOneAnother();
    thirtyThird();
    feeding();
    bytesInOrder();
    ending();
    loading();
    loadsRefused();
    faults();
    behindAFault();
    check.finish();
  }

  /** A table below the root of a new board: it is read, if place is -1, or else its fault is there. */
  private static void table(String what, int place, Object... parts) {
    RestBoard x = new RestBoard();
    Check.tape(x, parts);
    int came = x.load(0);
    check.due(what + ": fault", x.fault(), place);
    check.due(what + ": load", came, place == -1 ? x.count(0) - 1 : -6);
    check.due(what + ": something came", x.count(0) > 1 ? 1 : 0, place == -1 ? 1 : 0);
    check.due(what + ": status", x.status(), place == -1 ? 0 : -6);
    check.due(what + ": -6", x.count(19), place == -1 ? 0 : 1);
    check.due(what + ": tape", x.count(13), 0);
    check.due(what + ": to undo", x.count(12), place == -1 ? 1 : 0);
  }

  /** Every byte from least to most can be there, behind some and ahead of others; each other one is the fault. */
  private static void range(String what, int[] before, int least, int most, int... behind) {
    for (int value = 0; value <= 255; value++) {
      boolean fits = value >= least && value <= most;
      table(what + " " + value, fits ? -1 : before.length, before, value, behind);
    }
  }

  /** The same in the code of a method, which is the only thing on the tape. */
  private static void codeRange(String what, int args, int[] before, int least, int most, int... behind) {
    int n = before.length + 1 + behind.length;
    range(what, Check.bytes("Mm", args, n, before), least, most, behind);
  }

  /** A method with three arguments: its code can be read, or has its fault there. */
  private static void code(String what, int place, Object... parts) {
    table(what, place == -1 ? -1 : place + 4, Check.method('m', 3, parts));
  }

  private static int[] row(Object... parts) {
    return Check.bytes(parts);
  }

  private static int[] locks(int from, int many) {
    int[] row = {};
    for (int i = 0; i < many; i++) {
      row = row(row, 'L', from + i);
    }
    return row;
  }

  private static void theRoot() {
    check.says("0, the ROOT, is a DEVICE and always there.");
    RestBoard x = new RestBoard();
    check.due("kind", x.node(0, 0), 1);
    check.refused("nothing to undo", x, -4, x::undo);
    check.due("kind", x.node(0, 0), 1);
    check.due("below it", Check.load(x, 0, "La"), 1);
    x.undo();
    check.due("it stays", x.node(0, 0), 1);
    check.due("all else is gone", x.node(1, 0), -1);
    check.due("below it again", Check.load(x, 0, "La"), 1);
    check.says("`RestBoard()`: The ROOT alone.");
    check.due("nodes", new RestBoard().count(0), 1);
    check.due("devices", new RestBoard().count(1), 1);
  }

  private static void nodes() {
    check.says("NODES 0 .. 31 as they come;");
    RestBoard x = Check.board(Check.device('a', locks('a', 5)), locks('b', 25));
    check.due("how many", x.count(0), 32);
    check.due("the first", x.node(1, 1), 'a');
    check.due("what is in it comes behind it", x.node(6, 1), 'e');
    check.due("then the next", x.node(7, 1), 'b');
    check.due("the last", x.node(31, 1), 'z');
    check.due("none behind it", x.node(32, 0), -1);
    check.due("none ahead of 0", x.node(-1, 0), -1);
    check.due("far off", x.node(Integer.MAX_VALUE, 0), -1);
    check.due("far off", x.node(Integer.MIN_VALUE, 0), -1);
  }

  /** What must stand behind a letter and a name. */
  private static int[] behindName(int letter) {
    switch (letter) {
      case 'D':
      case 'P':
        return row(0);
      case 'R':
      case 'M':
      case 'N':
        return row(0, 0);
      case 'F':
        return row(0, 0, 1, 0);
      default:
        return row();
    }
  }

  private static void letters() {
    check.says("no letter that begins a DEFINITION");
    for (int letter = 0; letter <= 255; letter++) {
      boolean fits = "DRMNPFL".indexOf(letter) >= 0;
      int[] more = row(letter, 'a', behindName(letter));
      table("first, " + letter, fits ? -1 : 0, more);
      table("second, " + letter, fits ? -1 : 2, "Lz", more);
      table("in a device, " + letter, fits ? -1 : 3, Check.device('d', more));
      table("behind a device, " + letter, fits ? -1 : 5, Check.device('d', "Lz"), more);
      table("behind a method, " + letter, fits ? -1 : 6, Check.method('d', 0, 24, 'l'), more);
    }
  }

  private static void names() {
    check.says("a NAME (a letter a .. z, 97 .. 122)");
    for (char letter : "DRMNPFL".toCharArray()) {
      range("name of " + letter, row(letter), 97, 122, behindName(letter));
    }
    check.says("no NAME or one that the PARENT has (or got in this TABLE)");
    for (char letter : "DRMNPFL".toCharArray()) {
      table("no name of " + letter, 1, letter);
      table("no name of " + letter + " in a device", 4, Check.device('d', letter), "a");
    }
  }

  private static void resources() {
    check.says("2 RESOURCE (LEVEL 0 .. 4, ORDER 0 .. 9)");
    range("level", row("Ra"), 0, 4, 0);
    range("order", row("Ra", 0), 0, 9);
    RestBoard x = Check.board(Check.resource('a', 0, 9), Check.resource('b', 4, 0));
    check.due("level 0", x.node(1, 3), 0);
    check.due("order 9", x.node(1, 4), 9);
    check.due("level 4", x.node(2, 3), 4);
    check.due("order 0", x.node(2, 4), 0);
  }

  /** So many bytes of code without a fault; there are none of one byte. */
  private static int[] anyCode(int many) {
    int[] row = many % 2 == 0 ? row() : row(23, 0, 1);
    while (row.length < many) {
      row = row(row, 24, 'l');
    }
    return row;
  }

  private static void methods() {
    check.says("3 METHOD (ARGS 0 .. 3, CODE: 60 bytes at most)");
    range("args", row("Ma"), 0, 3, 0);
    for (int n = 2; n <= 255; n++) {
      table(n + " bytes", n <= 60 ? -1 : 3, "Ma", 0, n, anyCode(n));
    }
    check.says("CODE of more than 60;");
    table("61 bytes, if nothing of them is there", 3, "Ma", 0, 61);
    table("61 bytes, though what is around ends first", 3, "Ma", 0, 61, anyCode(59));
    RestBoard x = Check.board(Check.method('a', 3, anyCode(60)), Check.method('b', 0));
    check.due("its args", x.node(1, 6), 3);
    check.due("its bytes", x.node(1, 7), 60);
    check.due("byte 59", x.code(1, 59), 'l');
    check.due("byte 60", x.code(1, 60), -1);
    check.due("no args", x.node(2, 6), 0);
    check.due("no bytes", x.node(2, 7), 0);
    check.due("byte 0 of none", x.code(2, 0), -1);
    check.due("all of it is run", x.call(1, 0, 0, 0), -7);
    check.due("nothing is run", x.call(2, 0, 0, 0), 0);
  }

  private static void numbers() {
    check.says("4 NUMBER (a VALUE 0 .. 65,535)");
    range("higher byte", row("Na"), 0, 255, 0);
    range("lower byte", row("Na", 0), 0, 255);
    int[] values = {0, 1, 255, 256, 32767, 32768, 65279, 65280, 65534, 65535};
    check.says("VALUE is two bytes here, the higher first, all else one byte.");
    for (int value : values) {
      check.due("number", Check.board(Check.number('n', value)).node(1, 8), value);
      check.due("in a package", Check.board(Check.pack('p', 1, value)).node(1, 11), value);
    }
  }

  private static void packages() {
    check.says("5 PACKAGE (0 .. 6 VALUES)");
    for (int m = 0; m <= 255; m++) {
      table("so many: " + m, m <= 6 ? -1 : 2, "Pa", m, new int[Math.min(2 * m, 300)]);
    }
    check.says("\"P\" NAME m {VALUE} (m of them)");
    for (int m = 0; m <= 6; m++) {
      int[] values = {65535, 2, 3, 4, 5, 256};
      RestBoard x = Check.board(Check.pack('a', java.util.Arrays.copyOf(values, m)), Check.pack('b', 7, 7, 7, 7, 7, 7));
      check.due("how many", x.node(1, 9), m);
      for (int i = 0; i <= 6; i++) {
        check.due("value " + i + " of " + m, x.node(1, 10 + i), i < m ? values[i] : -1);
      }
      check.due("the next one", x.node(2, 10), 7);
    }
  }

  private static void fields() {
    check.says("6 FIELD (BANK 0 .. 4, OFFSET 0 .. 63, WIDTH 1 .. 16, both together 64 at most, RULE 0 .. 2)");
    range("bank", row("Fa"), 0, 4, 0, 1, 0);
    range("offset", row("Fa", 0), 0, 63, 1, 0);
    range("width", row("Fa", 0, 0), 1, 16, 0);
    range("rule", row("Fa", 0, 0, 1), 0, 2);
    check.says("WIDTH, if it goes beyond 64");
    for (int offset = 47; offset <= 63; offset++) {
      range("width at " + offset, row("Fa", 4, offset), 1, Math.min(16, 64 - offset), 2);
    }
    RestBoard x = Check.board(Check.field('a', 0, 0, 1, 0), Check.field('b', 4, 63, 1, 2), Check.field('c', 3, 48, 16, 1));
    int[][] due = {{0, 0, 1, 0}, {4, 63, 1, 2}, {3, 48, 16, 1}};
    for (int i = 0; i < 3; i++) {
      for (int k = 0; k < 4; k++) {
        check.due("field " + i + " tells " + (20 + k), x.node(1 + i, 20 + k), due[i][k]);
      }
    }
  }

  private static void twoOfOneName() {
    check.says("No two have one PARENT and one NAME.");
    for (char one : "DRMNPFL".toCharArray()) {
      for (char other : "DRMNPFL".toCharArray()) {
        int[] first = row(one, 'x', behindName(one));
        int[] second = row(other, 'x', behindName(other));
        String both = one + " and " + other;
        table(both + " in one table", first.length + 1, first, second);
        table(both + " in one device", 3 + first.length + 1, Check.device('d', first, second));
        table(both + " with one between them", first.length + 3, first, "Ly", second);
        table(both + ", the second in a device", -1, first, Check.device('y', second));
        table(both + ", the first in a device", -1, Check.device('y', first), second);
        table(both + " in two devices", -1, Check.device('y', first), Check.device('z', second));
        RestBoard x = Check.board(first);
        check.due(both + " in two tables", Check.load(x, 0, "Ly", second), -6);
        check.due(both + " in two tables: fault", x.fault(), 3);
        check.due(both + " in two tables: nothing came", x.count(0), 2);
      }
    }
    table("of a device and what is in it", -1, Check.device('x', Check.device('x', "Lx")));
    RestBoard x = Check.board(Check.device('x', "La"), "Lb");
    check.due("the root's in a device", Check.load(x, 1, "Lb"), 1);
    check.due("the device's, in it", Check.load(x, 1, "La"), -6);
    check.due("the device's, below the root", Check.load(x, 0, "La"), 1);
    x.undo();
    x.undo();
    check.due("a name that is undone is free", Check.load(x, 1, "Lb"), 1);
  }

  private static void lookingUp() {
    check.says("A NAME is LOOKED UP from a DEVICE: the NODE of that NAME the PARENT of which it is, or else from its own PARENT on, up to the ROOT.");
    RestBoard x = Check.board("La", Check.device('d', "Lb", Check.device('e', "Lc", "Lb"), Check.device('f', "Lg")));
    int outer = 2;
    int inner = 4;
    check.due("its own", x.lookUp(inner, 'c'), 5);
    check.due("its own ahead of its parent's", x.lookUp(inner, 'b'), 6);
    check.due("its parent's own", x.lookUp(outer, 'b'), 3);
    check.due("the root's", x.lookUp(inner, 'a'), 1);
    check.due("itself, as its parent's", x.lookUp(inner, 'e'), inner);
    check.due("its parent, as the root's", x.lookUp(inner, 'd'), outer);
    check.due("one beside it", x.lookUp(inner, 'f'), 7);
    check.due("not what is in one beside it", x.lookUp(inner, 'g'), -1);
    check.due("not what is further in", x.lookUp(outer, 'c'), -1);
    check.due("not what is in a device of the root", x.lookUp(0, 'b'), -1);
    check.due("none", x.lookUp(inner, 'z'), -1);
    int[] deep = {};
    for (int i = 0; i < 30; i++) {
      deep = Check.device('d', deep);
    }
    RestBoard y = Check.board(Check.device('x', deep));
    check.due("the root's, from the 31st in one another", y.lookUp(31, 'x'), 1);
    check.due("the next one above", y.lookUp(31, 'd'), 31);
    check.due("none", y.lookUp(31, 'z'), -1);
    check.says("A NAME LOOKED UP from a DEVICE: the NODE. NONE.");
    for (int name : new int[] {0, -1, 96, 123, 'A', 'a' + 256, Integer.MIN_VALUE, Integer.MAX_VALUE}) {
      check.due("no name " + name, x.lookUp(inner, name), -1);
    }
    for (int node : new int[] {-1, 1, 3, 9, 32, Integer.MIN_VALUE, Integer.MAX_VALUE}) {
      check.due("no device " + node, x.lookUp(node, 'a'), -1);
    }
  }

  private static void emptyTable() {
    check.says("TABLES: DEFINITION {DEFINITION}, to the end of the TAPE.");
    table("nothing", 0);
    RestBoard x = new RestBoard();
    x.feed('L' << 24 | 'a' << 16, 0, 0, 0, 0);
    check.due("what is behind it is of the table, too", x.load(0), -6);
    check.due("its place", x.fault(), 2);
    check.due("the tape is empty now", x.load(0), -6);
    check.due("its place", x.fault(), 0);
  }

  private static void termNumbers() {
    check.says("0 b (b)");
    codeRange("0 b", 0, row(22, 0), 0, 255);
    check.says("1 h l (256 times h, and l)");
    codeRange("1 h", 0, row(22, 1), 0, 255, 7);
    codeRange("1 h l", 0, row(22, 1, 7), 0, 255);
    check.says("2 k (LOCAL k, 0 .. 3)");
    codeRange("2 k", 0, row(22, 2), 0, 3);
    check.says("3 k (ARG k, of those it has)");
    for (int args = 0; args <= 3; args++) {
      codeRange("3 k of " + args, args, row(22, 3), 0, args - 1);
    }
    check.says("7 o TERM TERM (o 0 .. 9:");
    codeRange("7 o", 0, row(22, 7), 0, 9, 0, 1, 0, 1);
    check.says("16 k TERM (into LOCAL k)");
    codeRange("16 k", 0, row(16), 0, 3, 0, 1);
  }

  private static void calledWith() {
    check.says("5 NAME m {TERM} (a METHOD is run with m (0 .. 3) ARGS: what it RETURNS)");
    for (int m = 0; m <= 255; m++) {
      int[] terms = {};
      for (int i = 0; i < Math.min(m, 10); i++) {
        terms = row(terms, 0, 1);
      }
      code("5 with " + m, m <= 3 ? -1 : 3, 22, 5, 'f', m, terms);
    }
    code("one term too few", 8, 22, 5, 'f', 3, 0, 1, 0, 1);
    code("one term too many", 8, 22, 5, 'f', 2, 0, 1, 0, 1, 0, 1);
  }

  private static void namesInCode() {
    check.says("no NAME");
    codeRange("4", 0, row(22, 4), 97, 122);
    codeRange("5", 0, row(22, 5), 97, 122, 0);
    codeRange("6", 0, row(22, 6), 97, 122, 0, 1);
    codeRange("9", 0, row(22, 9), 97, 122);
    codeRange("17", 0, row(17), 97, 122, 0, 1);
    codeRange("18", 0, row(18), 97, 122, 0, 1, 0, 1);
    codeRange("24", 0, row(24), 97, 122);
    codeRange("25", 0, row(25), 97, 122);
  }

  /** Terms in one another, of one kind: what is ahead of the inner one and behind it. The innermost is 0 1. */
  private static int[] nested(int deep, int[] ahead, int[] behind) {
    int[] term = row(0, 1);
    for (int i = 1; i < deep; i++) {
      term = row(ahead, term, behind);
    }
    return term;
  }

  private static void termsDeep() {
    check.says("TERMS lie within one another 8 deep at most.");
    int[][] ahead = {{8}, {6, 'p'}, {7, 0}, {7, 0, 0, 1}, {5, 'f', 1}, {5, 'f', 2}, {5, 'f', 2, 0, 1}, {5, 'f', 3}, {5, 'f', 3, 0, 1}, {5, 'f', 3, 0, 1, 0, 1}};
    int[][] behind = {{}, {}, {0, 1}, {}, {}, {0, 1}, {}, {0, 1, 0, 1}, {0, 1}, {}};
    for (int i = 0; i < ahead.length; i++) {
      String what = "by " + java.util.Arrays.toString(ahead[i]);
      code("8 deep " + what, -1, 22, nested(8, ahead[i], behind[i]));
      // The first term in the eighth one is the fault, be it the one that goes on or one ahead of that.
      int head = ahead[i][0] == 5 ? 3 : ahead[i][0] == 8 ? 1 : 2;
      code("9 deep " + what, 1 + 7 * ahead[i].length + head, 22, nested(9, ahead[i], behind[i]));
    }
    int[][] statements = {{16, 0}, {17, 'n'}, {18, 'p'}, {18, 'p', 0, 1}, {19}, {21}, {22}, {23}, {26}, {28}};
    int[][] rests = {{}, {}, {0, 1}, {}, {0}, {0}, {}, {}, {}, {}};
    check.says("a TERM 9 deep;");
    for (int i = 0; i < statements.length; i++) {
      String what = "in " + java.util.Arrays.toString(statements[i]);
      code("8 deep " + what, -1, statements[i], nested(8, new int[] {8}, new int[0]), rests[i]);
      code("9 deep " + what, statements[i].length + 8, statements[i], nested(9, new int[] {8}, new int[0]), rests[i]);
    }
    code("deep again behind a deep one", -1, 22, 7, 0, nested(7, new int[] {8}, new int[0]), nested(7, new int[] {8}, new int[0]));
    code("9 deep behind one of 8", 11 + 7, 22, 7, 0, nested(7, new int[] {8}, new int[0]), nested(8, new int[] {8}, new int[0]));
    code("a 9th that is over", 9, 22, 8, 8, 8, 8, 8, 8, 8, 8);
    code("a 9th that begins no term", 9, 22, 8, 8, 8, 8, 8, 8, 8, 8, 99);
  }

  private static int[] behindTerm(int what) {
    int[][] rows = {{1}, {0, 1}, {0}, {0}, {'n'}, {'m', 0}, {'p', 0, 1}, {0, 0, 1, 0, 1}, {0, 1}, {'a'}};
    return what < rows.length ? rows[what] : row(0, 1);
  }

  private static void termsBegin() {
    check.says("no byte that begins a TERM, STATEMENT;");
    int[][] ahead = {{22}, {23}, {26}, {28}, {16, 0}, {17, 'n'}, {18, 'p'}, {18, 'p', 0, 1}, {19}, {21}, {22, 8}, {22, 6, 'p'}, {22, 7, 0}, {22, 7, 0, 0, 1},
      {22, 5, 'f', 1}, {22, 5, 'f', 3}, {22, 5, 'f', 3, 0, 1}, {22, 5, 'f', 3, 0, 1, 0, 1}};
    int[][] behind = {{}, {}, {}, {}, {}, {}, {0, 1}, {}, {0}, {0}, {}, {}, {0, 1}, {}, {}, {0, 1, 0, 1}, {0, 1}, {}};
    for (int i = 0; i < ahead.length; i++) {
      String what = "behind " + java.util.Arrays.toString(ahead[i]) + ", ";
      for (int begin = 0; begin <= 255; begin++) {
        code(what + begin, begin <= 9 ? -1 : ahead[i].length, ahead[i], begin, behindTerm(begin), behind[i]);
      }
      code(what + "nothing", ahead[i].length, ahead[i]);
    }
  }

  private static int[] behindStatement(int what) {
    int[][] rows = {{0, 0, 1}, {'n', 0, 1}, {'p', 0, 1, 0, 1}, {0, 1, 0}, {0}, {0, 1, 0}, {0, 1}, {0, 1}, {'l'}, {'l'}, {0, 1}, {}, {0, 1}};
    return what >= 16 && what < 16 + rows.length ? rows[what - 16] : row(0, 1);
  }

  private static void statementsBegin() {
    check.says("no byte that begins a TERM, STATEMENT;");
    for (int begin = 0; begin <= 255; begin++) {
      boolean fits = begin >= 16 && begin <= 28 && begin != 20 && begin != 27;
      int[] one = row(begin, behindStatement(begin));
      code("first, " + begin, fits ? -1 : 0, one);
      code("behind a statement, " + begin, fits ? -1 : 3, 23, 0, 1, one);
      code("in a 19, " + begin, fits ? -1 : 4, Check.block(19, row(0, 1), one));
      code("behind a 20, " + begin, fits ? -1 : 6, 19, 0, 1, 0, Check.otherwise(one));
      code("in a 21, " + begin, fits || begin == 27 ? -1 : 4, Check.block(21, row(0, 1), one));
      code("behind a 19's, " + begin, fits || begin == 20 ? -1 : 4, 19, 0, 1, 0, one);
      code("behind a 20's, " + begin, fits ? -1 : 6, 19, 0, 1, 0, 20, 0, one);
      code("behind a 21's, " + begin, fits ? -1 : 4, 21, 0, 1, 0, one);
    }
  }

  private static void endsTooSoon() {
    check.says("the TAPE's length, if it ends too soon");
    int[][] whole = {Check.resource('a', 1, 2), Check.number('a', 300), Check.pack('a', 1, 2, 3, 4, 5, 6), Check.field('a', 1, 2, 3, 0), Check.lock('a'),
      {'D', 'a', 0}, {'M', 'a', 0, 0}};
    for (int[] definition : whole) {
      table("all of it", -1, definition);
      for (int length = 1; length < definition.length; length++) {
        int[] part = java.util.Arrays.copyOf(definition, length);
        table((char) definition[0] + " of " + length, length, part);
        table((char) definition[0] + " of " + length + " behind another", length + 4, "Rz", 0, 0, part);
      }
    }
    check.says("n beyond what is around it");
    int[] device = Check.device('a', "Lb", Check.number('c', 1));
    for (int length = 3; length < device.length; length++) {
      table("a device's part of " + length, 2, java.util.Arrays.copyOf(device, length));
    }
    int[] method = Check.method('a', 0, 16, 0, 0, 1, 22, 2, 0);
    for (int length = 4; length < method.length; length++) {
      table("a method's part of " + length, 3, java.util.Arrays.copyOf(method, length));
    }
  }

  private static void bytesOfDevicesAreOver() {
    check.says("where n bytes are over within something: the place behind them");
    int[][] inside = {Check.resource('b', 1, 2), Check.number('b', 300), Check.pack('b', 1, 2), Check.field('b', 1, 2, 3, 0), Check.lock('b')};
    for (int[] definition : inside) {
      table("none of it", -1, "Da", 0, definition);
      table("all of it", -1, "Da", definition.length, definition);
      for (int n = 1; n < definition.length; n++) {
        table("a device's n is " + n + " of " + definition.length, 3 + n, "Da", n, definition);
        table("in a device, n is " + n, 6 + n, Check.device('x', "Da", n, definition));
        table("behind a lock, n is " + n, 5 + n, "Da", 2 + n, "Ly", definition);
      }
    }
    for (int n = 1; n <= 3; n++) {
      table("ahead of a method's n, " + n, 3 + n, "Da", n, Check.method('b', 0, 24, 'l'));
    }
    for (int n = 1; n <= 2; n++) {
      table("ahead of a device's n, " + n, 3 + n, "Da", n, Check.device('b', "Lc"));
    }
  }

  private static void bytesOfCodeAreOver() {
    check.says("CODE: {STATEMENT}, wholly in its n bytes:");
    int[][] codes = {{16, 0, 0, 1}, {17, 'n', 1, 2, 3}, {18, 'p', 0, 1, 2, 3}, {22, 7, 0, 0, 1, 8, 0, 2}, {23, 5, 'm', 2, 0, 1, 4, 'n'}, {24, 'l'}, {25, 'l'},
      {26, 6, 'p', 0, 1}, {28, 9, 'a'}, {24, 'l', 25, 'l', 22, 0, 1}};
    for (int[] all : codes) {
      table("all of it", -1, "Mm", 0, all.length, all);
      for (int n = 0; n < all.length; n++) {
        // At a statement's end what follows would have to be a definition, which it is not.
        table("n is " + n + " of " + java.util.Arrays.toString(all), 4 + n, "Mm", 0, n, all);
      }
    }
    check.says("where n bytes are over within something: the place behind them");
    int[][] heads = {{19, 0, 1}, {21, 0, 1}, {19, 0, 1, 0, 20}};
    for (int[] head : heads) {
      for (int n = 0; n <= 10; n++) {
        boolean fits = n == 0 || n == 2 || n == 8 || n == 10;
        code(java.util.Arrays.toString(head) + " with n " + n, fits ? -1 : head.length + 1 + n, head, n, 24, 'l', 18, 'p', 0, 1, 2, 3, 25, 'l');
      }
    }
  }

  private static void beyondWhatIsAround() {
    check.says("n beyond what is around it");
    for (int n = 0; n <= 255; n++) {
      int place = n > 10 ? 2 : n % 2 == 1 ? 3 + n : -1;
      table("a device's n " + n + " of 10", place, "Da", n, locks('b', 5));
      int inner = n > 10 ? 5 : n % 2 == 1 ? 6 + n : -1;
      table("in a device, n " + n + " of 10", inner, "Dx", 13, "Da", n, locks('b', 5), locks('b', 20));
      int method = n > 10 ? 6 : n < 10 ? 7 + n : -1;
      table("a method's n " + n + " of 10 in a device", method, "Dx", 14, "Ma", 0, n, anyCode(10), locks('b', 20));
    }
    int[][] heads = {{19, 0, 1}, {21, 0, 1}, {19, 0, 1, 0, 20}};
    for (int[] head : heads) {
      String what = java.util.Arrays.toString(head);
      for (int n = 0; n <= 255; n++) {
        int place = n > 6 ? head.length : n % 2 == 1 ? head.length + 1 + n : -1;
        code(what + " with n " + n + " of 6", place, head, n, anyCode(6));
        // The 19 around has six bytes behind the inner n; the method goes on behind it.
        int inner = place == -1 ? -1 : place + 4;
        code(what + " in a 19 with n " + n + " of 6", inner, 19, 0, 1, head.length + 7, head, n, anyCode(6), anyCode(20));
      }
    }
  }

  private static void outOfALoop() {
    check.says("a 27 outside of any 21;");
    int[] one = {0, 1};
    code("outside", 0, 27);
    code("in a 19", 4, Check.block(19, one, 27));
    code("behind a 20", 6, 19, one, 0, Check.otherwise(27));
    code("behind a 21", 5, Check.block(21, one, 27), 27);
    code("behind an empty 21", 4, Check.block(21, one), 27);
    code("in a 21", -1, Check.block(21, one, 27));
    code("twice in a 21", -1, Check.block(21, one, 27, 27));
    code("in a 19 in a 21", -1, Check.block(21, one, Check.block(19, one, 27)));
    code("behind a 20 in a 21", -1, Check.block(21, one, 19, one, 0, Check.otherwise(27)));
    code("behind a 21 in a 21", -1, Check.block(21, one, Check.block(21, one, 27), 27));
    code("behind a 21 in a 19", 9, Check.block(19, one, Check.block(21, one, 27), 27));
    code("in a 21 in a 19", -1, Check.block(19, one, Check.block(21, one, 27)));
    table("in the next method", 4 + 5 + 4, Check.method('m', 0, Check.block(21, one, 27)), Check.method('n', 0, 27));
  }

  private static void otherwise() {
    check.says("a 20 not right behind a 19's STATEMENTS;");
    int[] one = {0, 1};
    code("first", 0, 20, 0);
    code("behind an empty 19", -1, 19, one, 0, 20, 0);
    code("behind a 19", -1, Check.block(19, one, 24, 'l'), Check.otherwise(25, 'l'));
    code("in a 19", 4, Check.block(19, one, 20, 0));
    code("in a 20", 6, 19, one, 0, Check.otherwise(20, 0));
    code("behind a 20", 6, 19, one, 0, 20, 0, 20, 0);
    code("behind a 21", 4, 21, one, 0, 20, 0);
    code("behind a statement behind a 19", 6, 19, one, 0, 24, 'l', 20, 0);
    code("behind another 19", -1, 19, one, 0, 19, one, 0, 20, 0);
    code("of the outer 19", -1, Check.block(19, one, 19, one, 0), 20, 0);
    code("of both", -1, Check.block(19, one, 19, one, 0, 20, 0), 20, 0);
    code("of the inner one twice", 10, Check.block(19, one, 19, one, 0, 20, 0, 20, 0));
    code("behind a 21 that a 19 ends", 8, Check.block(21, one, 19, one, 0), 20, 0);
    code("behind a 20 that a 19 ends", 10, 19, one, 0, Check.otherwise(19, one, 0), 20, 0);
    code("behind a 19 that a 21 ends", -1, Check.block(19, one, 21, one, 0), 20, 0);
    table("in the next method", 4 + 4 + 4, Check.method('m', 0, 19, one, 0), Check.method('n', 0, 20, 0));
  }

  private static void blocksInOneAnother() {
    check.says("(n bytes of them: run if TERM isn't 0; those behind 20 if it is)");
    for (int kind : new int[] {19, 21}) {
      int[] inner = {};
      int deep = 0;
      while (inner.length + 4 <= 60) {
        inner = Check.block(kind, row(2, 0), inner);
        deep++;
      }
      check.due("so deep", deep, 15);
      RestBoard x = Check.board(Check.method('m', 0, inner));
      check.due("run", x.call(1, 0, 0, 0), 0);
      check.due("the outermost alone", x.count(11), 2);
    }
    int[] inner = row(22, 0, 9);
    while (inner.length + 4 <= 60) {
      inner = Check.block(19, row(8, 2, 0), inner);
    }
    RestBoard x = Check.board(Check.method('m', 0, inner));
    check.due("the innermost", x.call(1, 0, 0, 0), 9);
    check.due("each of eleven and the return", x.count(11), 11 * 3 + 2);
  }

  private static void thirtyThird() {
    check.says("a 33rd NODE (its first byte).");
    int[] before = row(Check.device('a', locks('a', 5)), locks('b', 24));
    for (char letter : "DRMNPFL".toCharArray()) {
      int[] more = row(letter, 'z', behindName(letter));
      RestBoard x = Check.board(before);
      check.due("31 nodes", x.count(0), 31);
      check.due("the 32nd, " + letter, Check.load(x, 0, more), 1);
      check.due("the 33rd, " + letter, Check.load(x, 1, more), -6);
      check.due("its place", x.fault(), 0);
      check.due("32 nodes", x.count(0), 32);
      x.undo();
      check.due("two of them", Check.load(x, 1, more, 'L', 'y'), -6);
      check.due("the second one's place", x.fault(), more.length);
      check.due("31 nodes", x.count(0), 31);
    }
    RestBoard x = Check.board(before, "Lz");
    check.due("a 33rd without a name", Check.load(x, 1, 'L'), -6);
    check.due("its place", x.fault(), 0);
    check.due("a 33rd with a name that is there", Check.load(x, 0, "La"), -6);
    check.due("its place", x.fault(), 0);
    check.due("no letter", Check.load(x, 0, "X"), -6);
    check.due("its place", x.fault(), 0);
    table("in a device of this table", before.length + 3, before, Check.device('z', "Ly"));
    table("a 32nd in one table", -1, before, "Lz");
  }

  private static void feeding() {
    check.says("The TAPE: 400 bytes at most.");
    check.says("NONE, if there would be more than 400.");
    RestBoard x = new RestBoard();
    for (int i = 1; i <= 20; i++) {
      check.due("feed", x.feed(i, -i, 0, Integer.MIN_VALUE, Integer.MAX_VALUE), 20 * i);
      check.due("bytes", x.count(13), 20 * i);
    }
    check.asked("at 400", x, -1, () -> x.feed(1, 2, 3, 4, 5));
    for (int length = 381; length < 400; length++) {
      RestBoard y = new RestBoard();
      for (int i = 0; i < 20; i++) {
        y.feed(0, 0, 0, 0, 0);
      }
      y.end(length);
      check.asked("at " + length, y, -1, () -> y.feed(0, 0, 0, 0, 0));
    }
    x.end(380);
    check.due("at 380", x.feed(0, 0, 0, 0, 0), 400);
    // All 400 bytes are read: six methods of 64 bytes, four resources.
    int[] all = {};
    for (int i = 0; i < 6; i++) {
      all = row(all, Check.method((char) ('a' + i), 0, anyCode(60)));
    }
    for (int i = 0; i < 4; i++) {
      all = row(all, Check.resource((char) ('m' + i), 4, i));
    }
    RestBoard y = new RestBoard();
    Check.tape(y, all);
    check.due("bytes", y.count(13), 400);
    check.due("a table of 400 bytes", y.load(0), 10);
    check.due("the last byte", y.node(10, 4), 3);
  }

  private static void bytesInOrder() {
    check.says("Twenty bytes come behind the TAPE, four of each number, the highest first: how many it has.");
    RestBoard x = new RestBoard();
    check.due("feed", x.feed('P' << 24 | 'a' << 16 | 6 << 8 | 0x81, 0x82838485, 0x86878889, 0x8a8b8c00 | 'P', 'b' << 24 | 'L' << 8 | 'c'), 20);
    check.due("load", x.load(0), 3);
    for (int i = 0; i < 6; i++) {
      check.due("value " + i, x.node(1, 10 + i), (0x81 + 2 * i) * 256 + 0x82 + 2 * i);
    }
    check.due("behind what is there", x.feed('L' << 24 | 'd' << 16, 0, 0, 0, 0), 20);
    x.end(2);
    check.due("behind what is there", x.feed('L' << 24 | 'e' << 16, 0, 0, 0, 0), 22);
    x.end(4);
    check.due("both", x.load(0), 2);
    check.due("the first", x.node(4, 1), 'd');
    check.due("the second", x.node(5, 1), 'e');
    check.due("no refusal is told of feed and end", x.status(), 0);
  }

  private static void ending() {
    check.says("The TAPE has its first n bytes alone: n. NONE, if it has not so many, or n is below 0.");
    RestBoard x = new RestBoard();
    check.asked("1 of none", x, -1, () -> x.end(1));
    check.due("0 of none", x.end(0), 0);
    x.feed('L' << 24 | 'a' << 16 | 'L' << 8 | 'b', 'L' << 24 | 'c' << 16, 0, 0, 0);
    check.asked("-1 of 20", x, -1, () -> x.end(-1));
    check.asked("21 of 20", x, -1, () -> x.end(21));
    check.asked("far off", x, -1, () -> x.end(Integer.MAX_VALUE));
    check.asked("far off", x, -1, () -> x.end(Integer.MIN_VALUE));
    check.due("20 of 20", x.end(20), 20);
    check.due("19 of 20", x.end(19), 19);
    check.asked("what is cut does not come back", x, -1, () -> x.end(20));
    check.due("4", x.end(4), 4);
    check.due("bytes", x.count(13), 4);
    check.due("its first bytes", x.load(0), 2);
    check.due("the last of them", x.node(2, 1), 'b');
    x.feed(1, 1, 1, 1, 1);
    check.due("0", x.end(0), 0);
    check.due("bytes", x.count(13), 0);
  }

  private static void loading() {
    check.says("The TABLE on the TAPE (empty then, also by -6) comes below a DEVICE: how many NODES came.");
    RestBoard x = new RestBoard();
    check.due("one", Check.load(x, 0, "Da", 0), 1);
    check.due("empty then", x.count(13), 0);
    check.due("three, one in another", Check.load(x, 1, Check.device('b', Check.device('c')), "Ld"), 3);
    check.due("parent", x.node(2, 2), 1);
    check.due("parent", x.node(3, 2), 2);
    check.due("parent", x.node(4, 2), 1);
    Check.tape(x, "Le", "X");
    long[] before = Check.standing(x);
    check.due("not to be read", x.load(3), -6);
    check.due("empty then", x.count(13), 0);
    check.due("its fault", x.fault(), 2);
    check.same("not to be read", Check.standing(x), before);
    check.due("to undo", x.count(12), 2);
    check.due("status", x.status(), -6);
    check.due("-6s", x.count(19), 1);
    check.due("the deepest of all", Check.load(x, 3, "Le"), 1);
    check.due("parent", x.node(5, 2), 3);
    check.due("told as undone", x.undo(), 0);
    check.due("undone", x.count(0), 5);
  }

  private static void loadsRefused() {
    check.says("-2, -3 (the TAPE stays); -6.");
    RestBoard x = Check.board(Check.number('i', 0), Check.device('d'), "Lz", Check.method('m', 0), Check.pack('p'), Check.field('f', 0, 0, 1, 0),
        Check.resource('r', 0, 0));
    Check.tape(x, "Lx");
    for (int node : new int[] {-1, 1, 3, 4, 5, 6, 7, 8, 31, 32, Integer.MAX_VALUE, Integer.MIN_VALUE}) {
      check.refused("node " + node, x, -2, () -> x.load(node));
    }
    x.rest(1);
    check.refused("at rest", x, -3, () -> x.load(0));
    check.refused("at rest", x, -3, () -> x.load(2));
    check.refused("-2 ahead of -3", x, -2, () -> x.load(1));
    check.refused("-2 ahead of -3", x, -2, () -> x.load(8));
    x.end(0);
    check.refused("-3 ahead of -6", x, -3, () -> x.load(0));
    check.refused("-2 ahead of -6", x, -2, () -> x.load(3));
    x.undo();
    Check.tape(x, "Lx");
    check.refused("no device", x, -2, () -> x.load(3));
    check.due("the tape stayed", x.load(2), 1);
    check.due("status", x.status(), 0);
  }

  private static void faults() {
    check.says("The FAULT of the latest load() that was not REFUSED by -2, -3; NONE without one, ahead of any.");
    RestBoard x = new RestBoard();
    check.due("ahead of any", x.fault(), -1);
    x.load(5);
    check.due("-2", x.fault(), -1);
    Check.load(x, 0, "Na", 1, 1, 'X');
    check.due("a fault", x.fault(), 4);
    Check.load(x, 1, "Q");
    check.due("-2 leaves it", x.fault(), 4);
    x.end(0);
    Check.load(x, 0, Check.number('i', 0));
    check.due("none", x.fault(), -1);
    x.load(0);
    check.due("an empty tape", x.fault(), 0);
    x.rest(1);
    Check.load(x, 0, "LaX");
    check.due("-3 leaves it", x.fault(), 0);
    x.undo();
    check.due("undo leaves it", x.fault(), 0);
    x.undo();
    check.due("undoing the load, too", x.fault(), 0);
    check.due("the tape stayed", x.load(0), -6);
    check.due("another one", x.fault(), 2);
    x.store(9, 9);
    x.call(9, 9, 9, 9);
    check.due("others leave it", x.fault(), 2);
    Check.load(x, 0, "La");
    check.due("none again", x.fault(), -1);
  }

  /** Whatever was open when a table had its fault, the next table is read from its own beginning. */
  private static void behindAFault() {
    check.says("The TABLE on the TAPE (empty then, also by -6) comes below a DEVICE");
    int[] one = {0, 1};
    int[] bad = {99};
    Object[] faulty = {Check.method('m', 0, Check.block(19, one, Check.block(21, one, Check.block(19, one, bad)))),
      Check.method('m', 0, Check.block(21, one, Check.block(21, one, Check.block(21, one, Check.block(21, one, bad))))),
      Check.method('m', 0, Check.block(19, one, 19, one, 0, Check.otherwise(Check.block(19, one, bad)))), Check.method('m', 3, 22, 8, 8, 8, 8, 8, 8, 8, 8, 0, 1),
      Check.device('a', Check.device('b', Check.device('c', "Lx", "Lx"))), Check.device('a', Check.device('b', Check.method('c', 1, Check.block(21, one, 27, 20)))), row("Pp", 6, 0), row("Nn", 1)};
    for (Object table : faulty) {
      RestBoard x = new RestBoard();
      check.due("faulty", Check.load(x, 0, locks('f', 12), table), -6);
      check.due("a 27 outside of any", Check.load(x, 0, Check.method('m', 0, 27)), -6);
      check.due("its place", x.fault(), 4);
      Check.load(x, 0, locks('f', 12), table);
      check.due("a 20 behind none", Check.load(x, 0, Check.method('m', 0, 20, 0)), -6);
      check.due("its place", x.fault(), 4);
      Check.load(x, 0, locks('f', 12), table);
      check.due("an arg of none", Check.load(x, 0, Check.method('m', 0, 22, 3, 0)), -6);
      check.due("its place", x.fault(), 6);
      Check.load(x, 0, locks('f', 12), table);
      check.due("a method and another one", Check.load(x, 0, Check.method('m', 1, 22, 3, 0), Check.method('n', 0, 19, 0, 0, 0, 22, 0, 5), Check.device('d', "La"), "Lx"), 5);
      check.due("no fault", x.fault(), -1);
      check.due("parents", x.node(3, 2) * 100 + x.node(4, 2) * 10 + x.node(5, 2), 30);
      check.due("run", x.call(1, 9, 0, 0), 9);
      check.due("run", x.call(2, 0, 0, 0), 5);
    }
  }
}
