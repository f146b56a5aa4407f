/** Promises 6, 16, 25, 26, 27: methods are run, fail with a trace, leave no lock held. */
public final class MethodTest {
  private static final Check check = new Check("MethodTest");

  public static void main(String[] args) {
    refusals();
    terms();
    deepTerms();
    argsInOrder();
    sums();
    statements();
    loops();
    names();
    errors();
    traces();
    steps();
    locks();
    notes();
    onPaper();
    check.finish();
  }

  private static int[] term(Object... bytes) {
    return Check.bytes(bytes);
  }

  private static int[] when(int[] term, Object... inside) {
    return Check.block(19, term, inside);
  }

  private static int[] otherwise(Object... inside) {
    return Check.otherwise(inside);
  }

  private static int[] repeat(int[] term, Object... inside) {
    return Check.block(21, term, inside);
  }

  private static int[] returns(Object... term) {
    return Check.method('m', 0, 22, Check.bytes(term));
  }

  /** What a method returns that tells a term; -7 for an error. */
  private static int valueOf(Object... term) {
    return Check.board(returns(term)).call(1, 0, 0, 0);
  }

  private static void refusals() {
    RestBoard x = Check.board(Check.method('m', 1, 22, 3, 0), Check.number('i', 0));
    check.due("call", x.call(1, 65535, 0, 0), 65535);
    check.due("a", x.call(1, 65536, 0, 0), -1);
    check.due("a", x.call(1, -1, 0, 0), -1);
    check.due("b, even if there is none", x.call(1, 0, 65536, 0), -1);
    check.due("c, even if there is none", x.call(1, 0, 0, -1), -1);
    check.due("-1 ahead of -2", x.call(2, 0, 0, -1), -1);
    check.due("no method", x.call(2, 0, 0, 0), -2);
    check.due("no node", x.call(3, 0, 0, 0), -2);
    check.due("no node", x.call(-1, 0, 0, 0), -2);
    check.due("steps stay", x.count(11), 2);
    check.due("to undo", x.count(12), 2);
    x.rest(1);
    check.due("at rest", x.call(1, 0, 0, 0), -3);
    check.due("-2 ahead of -3", x.call(0, 0, 0, 0), -2);
    check.due("-1s", x.count(14), 5);
    check.due("-2s", x.count(15), 4);
    check.due("-3s", x.count(16), 1);
    check.due("code", x.code(1, 0), 22);
    check.due("code", x.code(1, 2), 0);
    check.due("code beyond", x.code(1, 3), -1);
    check.due("code -1", x.code(1, -1), -1);
    check.due("no method's code", x.code(2, 0), -1);
    check.due("no node's code", x.code(9, 0), -1);
    check.due("args", x.node(1, 6), 1);
    check.due("bytes", x.node(1, 7), 3);
  }

  private static void terms() {
    check.due("0", valueOf(0, 255), 255);
    check.due("1", valueOf(1, 255, 254), 65534);
    check.due("local", valueOf(2, 3), 0);
    check.due("not 0", valueOf(8, 0, 0), 1);
    check.due("not 7", valueOf(8, 0, 7), 0);
    check.due("nothing", Check.board(Check.method('m', 0)).call(1, 0, 0, 0), 0);
    check.due("no return", Check.board(Check.method('m', 0, 23, 0, 9)).call(1, 0, 0, 0), 0);
    RestBoard x = Check.board(Check.method('m', 3, 22, 7, 0, 7, 2, 3, 0, 0, 10, 7, 1, 3, 1, 3, 2));
    check.due("args", x.call(1, 5, 9, 2), 57);
    x = Check.board(Check.number('n', 77), Check.field('f', 4, 4, 8, 0), Check.pack('p', 5, 6, 7), Check.resource('a', 0, 0),
        Check.method('m', 1, 22, 6, 'p', 3, 0), Check.method('q', 0, 22, 4, 'n'), Check.method('r', 0, 22, 4, 'f'),
        Check.method('s', 0, 22, 9, 'a'), Check.device('d', Check.pack('p', 'a')), Check.method('t', 0, 22, 5, 'm', 1, 0, 1));
    check.due("value 0", x.call(5, 0, 0, 0), 5);
    check.due("value 2", x.call(5, 2, 0, 0), 7);
    check.due("value 3", x.call(5, 3, 0, 0), -7);
    check.due("number", x.call(6, 0, 0, 0), 77);
    x.store(2, 0xa5);
    check.due("field", x.call(7, 0, 0, 0), 0xa5);
    check.due("off", x.call(8, 0, 0, 0), 0);
    x.power(9, 0);
    check.due("on", x.call(8, 0, 0, 0), 1);
    check.due("called", x.call(11, 0, 0, 0), 6);
  }

  private static void deepTerms() {
    // Eight deep, by each statement and each term that has terms in it. Seven 8s of 0 are 1, of 5 are 0.
    int[] one = {8, 8, 8, 8, 8, 8, 8, 0, 0};
    int[] zero = {8, 8, 8, 8, 8, 8, 8, 0, 5};
    RestBoard x = Check.board(Check.number('n', 9), Check.pack('p', 1, 2, 3),
        Check.method('a', 0, 16, 1, one, 17, 'n', one, 18, 'p', one, one, 22, 2, 1),
        Check.method('b', 0, when(one, 22, 0, 7), 22, 0, 2), Check.method('c', 0, when(zero, 22, 0, 7), otherwise(22, 0, 6)),
        Check.method('d', 0, repeat(one, 22, 0, 8)), Check.method('e', 0, 22, one), Check.method('f', 0, 26, one, 28, one));
    check.due("16", x.call(3, 0, 0, 0), 1);
    check.due("17", x.node(1, 8), 1);
    check.due("18", x.node(2, 11), 1);
    check.due("19", x.call(4, 0, 0, 0), 7);
    check.due("20", x.call(5, 0, 0, 0), 6);
    check.due("21", x.call(6, 0, 0, 0), 8);
    check.due("22", x.call(7, 0, 0, 0), 1);
    check.due("28", x.call(8, 0, 0, 0), -7);
    check.due("28's reason", x.error(1), 1);
    check.due("26", x.note(0, 1), 1);
    x = Check.board(Check.pack('p', 1, 2, 3, 0), Check.method('i', 1, 22, 3, 0),
        Check.method('a', 0, 22, 6, 'p', 6, 'p', 6, 'p', 6, 'p', 6, 'p', 6, 'p', 6, 'p', 0, 0),
        Check.method('b', 0, 22, 7, 0, 0, 1, 7, 0, 0, 2, 7, 0, 0, 4, 7, 0, 0, 8, 7, 0, 0, 16, 7, 0, 0, 32, 7, 0, 0, 64, 0, 128),
        Check.method('c', 0, 22, 7, 0, 7, 0, 7, 0, 7, 0, 7, 0, 7, 0, 7, 0, 0, 128, 0, 64, 0, 32, 0, 16, 0, 8, 0, 4, 0, 2, 0, 1),
        Check.method('d', 0, 22, 5, 'i', 1, 5, 'i', 1, 5, 'i', 1, 5, 'i', 1, 5, 'i', 1, 5, 'i', 1, 5, 'i', 1, 0, 33));
    check.due("6", x.call(3, 0, 0, 0), 3);
    check.due("7 to the right", x.call(4, 0, 0, 0), 255);
    check.due("7 to the left", x.call(5, 0, 0, 0), 255);
    check.due("5", x.call(6, 0, 0, 0), 33);
    // A loop's term is reckoned eight deep each time.
    x = Check.board(Check.method('m', 0, repeat(term(8, 8, 8, 8, 8, 8, 8, 2, 0), 16, 0, 2, 1, 16, 1, 0, 1), 22, 7, 0, 2, 0, 2, 1));
    check.due("21 again", x.call(1, 0, 0, 0), 2);
    check.due("21 again: steps", x.count(11), 1 + 3 * 8 + 2 * 4 + 4);
    int[] seventh = {7, 0, 0, 0, 7, 0, 0, 0, 7, 0, 0, 0, 7, 0, 0, 0, 7, 0, 0, 0, 7, 0, 0, 0};
    x = Check.board(Check.method('t', 3, 22, 7, 0, 7, 2, 0, 100, 3, 0, 7, 0, 7, 2, 0, 10, 3, 1, 3, 2),
        Check.method('m', 0, 22, seventh, 5, 't', 3, 0, 4, 0, 5, 0, 6));
    check.due("5's three", x.call(2, 0, 0, 0), 456);
  }

  private static void argsInOrder() {
    RestBoard x = Check.board(Check.method('t', 3, 22, 7, 0, 7, 2, 0, 100, 3, 0, 7, 0, 7, 2, 0, 10, 3, 1, 3, 2),
        Check.method('u', 2, 22, 7, 0, 7, 2, 0, 10, 3, 0, 3, 1), Check.method('n', 1, 26, 3, 0, 22, 3, 0),
        Check.method('m', 0, 22, 5, 't', 3, 5, 'n', 1, 0, 1, 5, 'u', 2, 5, 'n', 1, 0, 0, 5, 'n', 1, 0, 2, 5, 'n', 1, 0, 3));
    check.due("three args, one from a call", x.call(4, 0, 0, 0), 123);
    check.row("from the left", Check.notes(x), 0, 3, 0, 2, 0, 0, 0, 1);
  }

  private static void sums() {
    int[][] due = {
      {0, 65535, 2, 1}, {1, 2, 3, 65535}, {2, 65535, 65535, 1}, {2, 256, 256, 0}, {3, 65535, 256, 255}, {3, 1, 2, 0},
      {4, 65535, 256, 255}, {4, 5, 5, 0}, {5, 12, 10, 8}, {6, 12, 10, 14}, {7, 12, 10, 6}, {8, 1, 2, 1}, {8, 2, 2, 0},
      {8, 65535, 0, 0}, {9, 2, 2, 1}, {9, 2, 3, 0}, {3, 5, 0, -7}, {4, 5, 0, -7}, {5, 5, 0, 0},
    };
    for (int[] row : due) {
      int got = valueOf(7, row[0], 1, row[1] / 256, row[1] % 256, 1, row[2] / 256, row[2] % 256);
      check.due("7 " + row[0] + " of " + row[1] + ", " + row[2], got, row[3]);
    }
  }

  private static void statements() {
    RestBoard x = Check.board(Check.number('n', 0), Check.pack('p', 1, 2), Check.field('f', 0, 2, 3, 0),
        Check.method('m', 1, 16, 1, 7, 0, 3, 0, 0, 1, 16, 2, 7, 2, 2, 1, 2, 1, 17, 'n', 2, 2, 17, 'f', 2, 2,
            18, 'p', 0, 1, 4, 'f', 22, 2, 1, 17, 'n', 0, 9));
    check.due("locals", x.call(4, 6, 0, 0), 7);
    check.due("number", x.node(1, 8), 49);
    check.due("field is cut", x.node(3, 8), 1);
    check.due("package", x.node(2, 11), 1);
    check.due("package's other", x.node(2, 10), 1);
    check.due("locals are 0 anew", x.call(4, 1, 0, 0), 2);
    // 1 for 0, 2 for 1, 3 for others, and 10 more behind all of it.
    x = Check.board(Check.method('m', 1, when(term(7, 9, 3, 0, 0, 0), 16, 0, 0, 1),
        otherwise(when(term(7, 9, 3, 0, 0, 1), 16, 0, 0, 2), otherwise(16, 0, 0, 3)), 22, 7, 0, 2, 0, 0, 10));
    check.due("if", x.call(1, 0, 0, 0), 11);
    check.due("else if", x.call(1, 1, 0, 0), 12);
    check.due("else", x.call(1, 2, 0, 0), 13);
    // A 20 belongs to the 19 whose statements it is right behind, though another one ends there, too.
    x = Check.board(Check.method('m', 2, when(term(3, 0), when(term(3, 1), 16, 0, 0, 1)), otherwise(16, 0, 0, 2), 22, 2, 0));
    check.due("both", x.call(1, 1, 1, 0), 1);
    check.due("outer alone", x.call(1, 1, 0, 0), 0);
    check.due("inner alone", x.call(1, 0, 1, 0), 2);
    check.due("return in a block", Check.board(Check.method('m', 0, 19, 0, 1, 3, 22, 0, 5, 22, 0, 6)).call(1, 0, 0, 0), 5);
  }

  private static void loops() {
    // The sum of all from ARG 0 down, but out when ARG 1 is reached.
    RestBoard x = Check.board(Check.method('m', 2, 16, 1, 3, 0,
        repeat(term(2, 1), 16, 0, 7, 0, 2, 0, 2, 1, 16, 1, 7, 1, 2, 1, 0, 1, when(term(7, 9, 2, 1, 3, 1), 27)), 22, 2, 0));
    check.due("never", x.call(1, 0, 9, 0), 0);
    check.due("never: steps", x.count(11), 6);
    check.due("once", x.call(1, 1, 9, 0), 1);
    check.due("4 times", x.call(1, 4, 9, 0), 10);
    check.due("out", x.call(1, 4, 2, 0), 7);
    check.due("out at once", x.call(1, 4, 3, 0), 4);
    // ARG 0 times ARG 1 by a loop in a loop, both left by a 27.
    x = Check.board(Check.method('m', 2, repeat(term(0, 1), when(term(7, 9, 2, 0, 3, 0), 27), 16, 0, 7, 0, 2, 0, 0, 1, 16, 1, 0, 0,
        repeat(term(0, 1), when(term(7, 9, 2, 1, 3, 1), 27), 16, 1, 7, 0, 2, 1, 0, 1, 16, 2, 7, 0, 2, 2, 0, 1)), 22, 2, 2));
    check.due("does it load", x.count(0), 2);
    check.due("3 times 4", x.call(1, 3, 4, 0), 12);
    check.due("0 times 4", x.call(1, 0, 4, 0), 0);
    check.due("4 times 0", x.call(1, 4, 0, 0), 0);
    check.due("a return in a loop", Check.board(Check.method('m', 0, repeat(term(0, 1), 22, 0, 3))).call(1, 0, 0, 0), 3);
  }

  private static void names() {
    RestBoard x = Check.board(Check.number('n', 1), Check.method('m', 0, 22, 4, 'n'),
        Check.device('d', Check.method('m', 0, 22, 4, 'n'), Check.device('e', Check.number('n', 3), Check.method('m', 0, 22, 4, 'n'),
            Check.method('o', 0, 22, 5, 'k', 0))), Check.method('k', 0, 22, 4, 'n'));
    check.due("from the root", x.call(2, 0, 0, 0), 1);
    check.due("from a device up", x.call(4, 0, 0, 0), 1);
    check.due("its own", x.call(7, 0, 0, 0), 3);
    check.due("from where the method is", x.call(8, 0, 0, 0), 1);
    check.due("look up", x.lookUp(5, 'n'), 6);
    check.due("look up", x.lookUp(3, 'n'), 1);
    check.due("look up", x.lookUp(5, 'm'), 7);
    check.due("look up", x.lookUp(0, 'e'), -1);
    check.due("look up", x.lookUp(3, 'd'), 3);
    check.due("look up from no device", x.lookUp(1, 'n'), -1);
    check.due("look up from no node", x.lookUp(99, 'n'), -1);
    check.due("look up no name", x.lookUp(0, 0), -1);
    check.due("look up no name", x.lookUp(0, -1), -1);
    Check.load(x, 3, Check.number('n', 2));
    check.due("a nearer one came", x.call(4, 0, 0, 0), 2);
    x.undo();
    x.undo();
    check.due("and is gone", x.call(4, 0, 0, 0), 1);
  }

  private static void error(String what, int number, int reason, int place, Object... code) {
    RestBoard x = Check.board(Check.number('n', 1), Check.pack('p', 1), Check.lock('l'), Check.resource('a', 0, 0),
        Check.method('f', 2), Check.method('m', 0, code));
    check.due(what, x.call(6, 0, 0, 0), -7);
    check.due(what + ": status", x.status(), -7);
    check.row(what, Check.error(x), number, reason, 6, place);
    check.due(what + ": behind the trace", x.error(12), -1);
  }

  private static void errors() {
    error("4 none", 1, 0, 1, 22, 4, 'x');
    error("4 of a package", 1, 0, 1, 22, 4, 'p');
    error("5 none", 1, 0, 1, 22, 5, 'x', 0);
    error("5 of a number", 1, 0, 1, 22, 5, 'n', 0);
    error("6 of a number", 1, 0, 1, 22, 6, 'n', 0, 0);
    error("9 of a lock", 1, 0, 1, 22, 9, 'l');
    error("17 none", 1, 0, 0, 17, 'x', 0, 1);
    error("17 of a package", 1, 0, 0, 17, 'p', 0, 1);
    error("18 of a number", 1, 0, 0, 18, 'n', 0, 0, 0, 1);
    error("24 of a number", 1, 0, 0, 24, 'n');
    error("25 of a number", 1, 0, 0, 25, 'n');
    error("1 arg for 2", 2, 0, 1, 22, 5, 'f', 1, 0, 0);
    error("3 args for 2", 2, 0, 1, 22, 5, 'f', 3, 0, 0, 0, 0, 0, 0);
    error("value 1 of 1", 3, 0, 3, 16, 0, 8, 6, 'p', 0, 1);
    error("into value 1 of 1", 3, 0, 0, 18, 'p', 0, 1, 0, 1);
    error("by 0", 4, 0, 4, 26, 7, 0, 8, 7, 3, 0, 1, 0, 0, 0, 9);
    error("rest by 0", 4, 0, 1, 26, 7, 4, 0, 1, 0, 0);
    error("not acquired", 7, 0, 0, 25, 'l');
    error("released more often", 7, 0, 8, 24, 'l', 24, 'l', 25, 'l', 25, 'l', 25, 'l');
    error("28", 8, 515, 4, 19, 0, 1, 4, 28, 1, 2, 3);
    // All terms of its own are reckoned ahead of the name.
    error("28's term fails first", 4, 0, 1, 28, 7, 3, 0, 1, 0, 0);
    error("17's term fails first", 4, 0, 2, 17, 'x', 7, 3, 0, 1, 0, 0);
    error("18's second term fails first", 4, 0, 4, 18, 'x', 0, 9, 7, 3, 0, 1, 0, 0);
    error("5's term fails first", 1, 0, 4, 22, 5, 'x', 1, 4, 'y');
    error("what is stored stays", 7, 0, 4, 17, 'n', 0, 9, 25, 'l');
  }

  private static void traces() {
    RestBoard x = Check.board(Check.number('n', 1), Check.method('a', 1, 17, 'n', 7, 3, 0, 100, 3, 0, 22, 4, 'n'),
        Check.device('d', Check.method('b', 1, 26, 0, 1, 22, 7, 0, 0, 1, 5, 'a', 1, 3, 0)),
        Check.method('c', 1, when(term(0, 1), 22, 5, 'e', 1, 3, 0)), Check.device('g', Check.method('e', 1, 23, 5, 'a', 1, 3, 0)),
        Check.method('e', 1, 16, 0, 8, 5, 'a', 1, 3, 0));
    check.due("fine", x.call(4, 10, 0, 0), 11);
    check.due("stored", x.node(1, 8), 10);
    check.due("fails", x.call(4, 0, 0, 0), -7);
    check.row("trace", Check.error(x), 4, 0, 2, 2, 4, 8);
    check.due("how many", x.error(2), 2);
    check.due("fails", x.call(5, 0, 0, 0), -7);
    check.row("trace of three", Check.error(x), 4, 0, 2, 2, 8, 3, 5, 5);
    check.due("it stays when all is well", x.call(5, 1, 0, 0), 0);
    check.row("trace of three", Check.error(x), 4, 0, 2, 2, 8, 3, 5, 5);
    check.due("nothing at 3", x.error(3), -1);
    check.due("nothing at 9", x.error(9), -1);
    check.due("nothing at 16", x.error(16), -1);
    check.due("nothing at -1", x.error(-1), -1);
    // Six methods in one another are fine, a seventh is not.
    x = Check.board(Check.method('m', 1, when(term(3, 0), 22, 7, 0, 0, 1, 5, 'm', 1, 7, 1, 3, 0, 0, 1), 22, 0, 5),
        Check.method('n', 1, 22, 5, 'm', 0));
    check.due("six", x.call(1, 5, 0, 0), 10);
    check.due("seven", x.call(1, 6, 0, 0), -7);
    check.row("seven", Check.error(x), 5, 0, 1, 9, 1, 9, 1, 9, 1, 9, 1, 9, 1, 9);
    check.due("another number of args", x.call(2, 0, 0, 0), -7);
    check.row("another number of args", Check.error(x), 2, 0, 2, 1);
  }

  private static void steps() {
    // 1 for each statement, 1 for each term: 16 (1 + 1), then 21 once and its term each time.
    RestBoard x = Check.board(Check.method('m', 1, 16, 0, 3, 0, 21, 2, 0, 8, 16, 0, 7, 1, 2, 0, 0, 1, 22, 0, 1));
    check.due("0 turns", x.call(1, 0, 0, 0), 1);
    check.due("0 turns: steps", x.count(11), 6);
    check.due("3 turns", x.call(1, 3, 0, 0), 1);
    check.due("3 turns: steps", x.count(11), 6 + 3 * 5);
    check.due("198 turns", x.call(1, 198, 0, 0), 1);
    check.due("198 turns: steps", x.count(11), 996);
    check.due("199 turns", x.call(1, 199, 0, 0), -7);
    check.due("199 turns: steps", x.count(11), 1000);
    check.row("199 turns", Check.error(x), 6, 0, 1, 17);
    check.due("200 turns", x.tries(1, 200, 0, 0, 1), 1000);
    // Of all methods that one call runs.
    x = Check.board(Check.method('a', 0, 21, 8, 0, 0, 0), Check.method('b', 0, 23, 5, 'a', 0));
    check.due("endless", x.call(2, 0, 0, 0), -7);
    check.row("endless", Check.error(x), 6, 0, 1, 2, 2, 1);
    check.due("20 is no step", Check.board(Check.method('m', 0, 19, 0, 0, 0, 20, 3, 22, 0, 1)).tries(1, 0, 0, 0, 1), 4);
    check.due("20 passed by is none", Check.board(Check.method('m', 0, 19, 0, 1, 0, 20, 3, 22, 0, 1)).tries(1, 0, 0, 0, 1), 2);
    x = Check.board(Check.method('a', 1, 16, 0, 3, 0, repeat(term(2, 0), 16, 0, 7, 1, 2, 0, 0, 1)),
        Check.method('b', 2, 23, 5, 'a', 1, 3, 0, 23, 5, 'a', 1, 3, 1));
    check.due("1 and 198 turns", x.call(2, 99, 98, 0), 0);
    check.due("1 and 198 turns: steps", x.count(11), 6 + 8 + 197 * 5);
    check.due("of both", x.call(2, 99, 100, 0), -7);
    check.row("of both", Check.error(x), 6, 0, 1, 10, 2, 7);
  }

  private static void locks() {
    RestBoard x = Check.board(Check.lock('l'), Check.lock('o'), Check.method('a', 0, 24, 'l', 24, 'l', 24, 'o', 25, 'l'),
        Check.method('b', 0, 24, 'l', 23, 5, 'a', 0, 25, 'l'), Check.method('c', 0, 25, 'l'),
        Check.method('d', 0, 24, 'l', 23, 5, 'c', 0), Check.method('e', 0, 24, 'o', 25, 'o', 24, 'o', 22, 0, 3));
    check.due("fine", x.call(3, 0, 0, 0), 0);
    check.due("forgotten", x.node(1, 24), 1);
    check.due("forgotten", x.node(2, 24), 1);
    check.due("in one another", x.call(4, 0, 0, 0), 0);
    check.due("forgotten by the inner one", x.node(1, 24), 2);
    check.due("another run's", x.call(6, 0, 0, 0), -7);
    check.row("another run's", Check.error(x), 7, 0, 5, 0, 6, 3);
    check.due("forgotten by what failed", x.node(1, 24), 3);
    check.due("by a return", x.tries(7, 0, 0, 0, 2), 1);
    check.due("by a return", x.call(7, 0, 0, 0), 3);
    check.due("forgotten", x.node(2, 24), 3);
    check.due("as far as it came", x.tries(6, 0, 0, 0, 2), 1);
    check.due("none", x.node(3, 24), -1);
    // Each one that was acquired and not released counts.
    x = Check.board(Check.lock('l'), Check.method('a', 0, 24, 'l', 24, 'l', 24, 'l', 25, 'l'));
    check.due("two", x.tries(2, 0, 0, 0, 2), 2);
  }

  private static void notes() {
    RestBoard x = Check.board(Check.method('a', 1, 26, 3, 0), Check.device('d', Check.method('b', 0, 26, 0, 7, 23, 5, 'a', 1, 0, 8)));
    check.due("none", x.note(0, 0), -1);
    x.call(3, 0, 0, 0);
    check.row("notes", Check.notes(x), 0, 8, 2, 7);
    check.due("none", x.note(2, 0), -1);
    check.due("none", x.note(-1, 0), -1);
    check.due("none", x.note(0, 2), -1);
    check.due("none", x.note(0, -1), -1);
    for (int i = 0; i < 15; i++) {
      x.call(1, 1000 + i, 0, 0);
    }
    check.due("sixteen", x.count(9), 16);
    check.due("the oldest", x.note(15, 1), 8);
    x.call(1, 5, 0, 0);
    check.due("sixteen", x.count(9), 16);
    check.due("the oldest", x.note(15, 1), 1000);
    check.due("the latest", x.note(0, 1), 5);
    check.due("no more", x.note(16, 1), -1);
  }

  private static void onPaper() {
    RestBoard x = Check.board(Check.number('n', 5), Check.lock('l'), Check.field('f', 2, 4, 8, 0),
        Check.method('m', 1, 24, 'l', 17, 'f', 4, 'n', 26, 4, 'f', 17, 'n', 7, 3, 0, 9, 3, 0, 22, 4, 'n'), Check.number('i', 0));
    check.due("what it tells", x.tries(4, 3, 0, 0, 0), 3);
    check.due("steps", x.tries(4, 3, 0, 0, 1), 11);
    check.due("forgotten", x.tries(4, 3, 0, 0, 2), 1);
    check.due("reads", x.tries(4, 3, 0, 0, 3), 4);
    check.due("writes", x.tries(4, 3, 0, 0, 4), 4);
    check.due("fails", x.tries(4, 0, 0, 0, 0), -7);
    check.due("fails: steps", x.tries(4, 0, 0, 0, 1), 9);
    check.due("fails: reads", x.tries(4, 0, 0, 0, 3), 4);
    check.due("others", x.tries(4, 3, 0, 0, 5), -1);
    check.due("others", x.tries(4, 3, 0, 0, -1), -1);
    check.due("others ahead of what it would tell", x.tries(1, 3, 0, 0, 5), -1);
    for (int what = 1; what <= 4; what++) {
      check.due("-1", x.tries(4, 65536, 0, 0, what), 0);
      check.due("-2", x.tries(1, 3, 0, 0, what), 0);
    }
    check.due("-1", x.tries(4, 0, 0, -1, 0), -1);
    check.due("-2", x.tries(1, 0, 0, 0, 0), -2);
    check.due("nothing is told of it", x.error(0), 0);
    check.due("no steps", x.count(11), 0);
    check.due("no reads", x.count(6), 0);
    check.due("no notes", x.count(9), 0);
    check.due("no refusals", x.count(14) + x.count(15) + x.count(20), 0);
    check.due("one to undo", x.count(12), 1);
    check.due("number", x.node(1, 8), 5);
    check.due("lock", x.node(2, 24), 0);
    check.due("register", x.register(2, 0), 0);
    x.call(4, 0, 0, 0);
    int[] error = Check.error(x);
    check.due("steps of the call", x.count(11), 9);
    x.tries(4, 3, 0, 0, 0);
    check.due("its steps stay", x.count(11), 9);
    x.store(1, 6);
    check.due("another error on paper", x.tries(4, 0, 0, 0, 0), -7);
    check.row("its error stays", Check.error(x), error);
    x.would(1);
    check.due("its steps stay", x.count(11), 9);
    x.rest(1);
    check.due("-3", x.tries(4, 0, 0, 0, 0), -3);
    check.due("-3", x.tries(4, 0, 0, 0, 1), 0);
  }
}
