/** Promises 1 to 5: a new object, the tape, tables and their faults. */
public final class TapeTest {
  private static final Check check = new Check("TapeTest");

  public static void main(String[] args) {
    newObject();
    tape();
    loads();
    refusals();
    definitionFaults();
    codeFaults();
    faultsAnew();
    nodesOver();
    check.finish();
  }

  private static void newObject() {
    RestBoard x = new RestBoard();
    check.due("nodes", x.count(0), 1);
    check.due("devices", x.count(1), 1);
    for (int what = 2; what <= 20; what++) {
      check.due("count " + what, x.count(what), 0);
    }
    check.due("count 21", x.count(21), -1);
    check.due("count -1", x.count(-1), -1);
    check.due("kind of the root", x.node(0, 0), 1);
    check.due("name of the root", x.node(0, 1), 0);
    check.due("parent of the root", x.node(0, 2), -1);
    check.due("power of the root", x.node(0, 30), 0);
    check.due("root armed", x.node(0, 31), 0);
    check.due("no node 1", x.node(1, 0), -1);
    check.due("fault", x.fault(), -1);
    check.due("status", x.status(), 0);
    check.due("error", x.error(0), 0);
    check.due("reason", x.error(1), 0);
    check.due("trace", x.error(2), 0);
    check.due("error 3", x.error(3), -1);
    check.due("error 10", x.error(10), -1);
    check.due("deepest", x.deepest(), 0);
    check.due("order", x.order(0), -1);
    check.due("undo", x.undo(), -4);
    check.due("NONE", RestBoard.NONE, -1);
  }

  private static void tape() {
    RestBoard x = new RestBoard();
    check.due("end of nothing", x.end(0), 0);
    check.due("end beyond", x.end(1), -1);
    for (int i = 1; i <= 20; i++) {
      check.due("feed " + i, x.feed(-1, i, 0, 0, 0), 20 * i);
    }
    check.due("feed beyond 400", x.feed(0, 0, 0, 0, 0), -1);
    check.due("bytes", x.count(13), 400);
    check.due("end 401", x.end(401), -1);
    check.due("end -1", x.end(-1), -1);
    check.due("end 381", x.end(381), 381);
    check.due("feed beyond 400 by 1", x.feed(0, 0, 0, 0, 0), -1);
    check.due("end 380", x.end(380), 380);
    check.due("feed to 400", x.feed(0, 0, 0, 0, 0), 400);
    check.due("no refusal", x.status(), 0);
    // The highest byte first: 'N' 'a' 255 254.
    x.end(0);
    x.feed('N' << 24 | 'a' << 16 | 255 << 8 | 254, 0, 0, 0, 0);
    x.end(4);
    check.due("load", x.load(0), 1);
    check.due("value", x.node(1, 8), 65534);
    check.due("tape is empty", x.count(13), 0);
  }

  private static void loads() {
    RestBoard x = new RestBoard();
    check.due("all kinds", Check.load(x, 0, Check.device('d', Check.device('d', Check.lock('x')), Check.resource('a', 4, 9)),
        Check.method('m', 3, 22, 3, 2), Check.number('n', 65535), Check.pack('p'), Check.pack('q', 1, 2, 3, 4, 5, 65535),
        Check.field('f', 4, 63, 1, 2), Check.field('g', 0, 48, 16, 0), Check.lock('l'), Check.device('e')), 12);
    check.due("fault", x.fault(), -1);
    int[] kinds = {1, 1, 1, 7, 2, 3, 4, 5, 5, 6, 6, 7, 1};
    int[] parents = {-1, 0, 1, 2, 1, 0, 0, 0, 0, 0, 0, 0, 0};
    String names = "\0ddxamnpqfgle";
    for (int i = 0; i < kinds.length; i++) {
      check.due("kind of " + i, x.node(i, 0), kinds[i]);
      check.due("name of " + i, x.node(i, 1), names.charAt(i));
      check.due("parent of " + i, x.node(i, 2), parents[i]);
    }
    check.due("below a device", Check.load(x, 12, Check.number('n', 1)), 1);
    check.due("its parent", x.node(13, 2), 12);
    check.due("the same name elsewhere", Check.load(x, 2, Check.number('n', 1), Check.device('x')), -6);
    check.due("its fault", x.fault(), 5);
    check.due("nothing came", x.count(0), 14);
    check.due("the tape is empty", x.count(13), 0);
    check.due("and again", Check.load(x, 2, Check.number('n', 1), Check.device('y')), 2);
    check.due("no fault", x.fault(), -1);
  }

  private static void refusals() {
    RestBoard x = Check.board(Check.number('i', 0), Check.device('d'));
    Check.tape(x, Check.lock('l'));
    check.due("no device", x.load(1), -2);
    check.due("no node", x.load(3), -2);
    check.due("node -1", x.load(-1), -2);
    check.due("status", x.status(), -2);
    check.due("the tape stays", x.count(13), 2);
    x.rest(1);
    check.due("no node at rest", x.load(1), -2);
    check.due("at rest", x.load(0), -3);
    check.due("the tape stays", x.count(13), 2);
    check.due("-2", x.count(15), 4);
    check.due("-3", x.count(16), 1);
    x.undo();
    check.due("awake", x.load(2), 1);
    check.due("status", x.status(), 0);
    check.due("empty", x.load(0), -6);
    check.due("empty", x.fault(), 0);
    check.due("fault stays by -2", x.load(99), -2);
    check.due("fault stays by -2", x.fault(), 0);
    check.due("-6", x.count(19), 1);
  }

  private static void fault(String what, int place, Object... parts) {
    RestBoard x = new RestBoard();
    int came = Check.load(x, 0, parts);
    check.due(what, came, place == -1 ? x.count(0) - 1 : -6);
    check.due(what + ": fault", x.fault(), place);
    if (place != -1) {
      check.due(what + ": nothing came", x.count(0), 1);
    }
  }

  private static void definitionFaults() {
    fault("a letter", 0, 'X');
    fault("a small letter", 0, "n");
    fault("a second letter", 2, "LaE");
    fault("no name", 1, 'L');
    fault("name 96", 1, 'L', 96);
    fault("name 123", 1, 'L', 123);
    fault("names a, z", -1, 'L', 97, 'L', 122);
    fault("name twice", 3, "LaLa");
    fault("name twice in a device", 6, 'D', 'a', 4, "LaLa");
    fault("name of what is around", -1, 'D', 'a', 2, "La");
    fault("device without n", 2, "Da");
    fault("device's n", 2, 'D', 'a', 1);
    fault("device's n in a device", 5, 'D', 'a', 3, 'D', 'a', 1, "La");
    fault("device's bytes are over", 5, 'D', 'a', 2, "NaLb");
    fault("device's bytes are over behind a name", 5, 'D', 'a', 2, "Na", 0, 1);
    fault("level 5", 2, "Ra", 5, 0);
    fault("level 4, order 10", 3, "Ra", 4, 10);
    fault("level 4, order 9", -1, "Ra", 4, 9);
    fault("no order", 3, "Ra", 4);
    fault("args 4", 2, "Ma", 4, 0);
    fault("args 3", -1, "Ma", 3, 0);
    fault("method's n", 3, "Ma", 0, 1);
    fault("method without n", 3, "Ma", 0);
    int[] sixty = new int[60];
    java.util.Arrays.fill(sixty, 23);
    for (int i = 1; i < 60; i += 3) {
      sixty[i] = 0;
      sixty[i + 1] = 7;
    }
    fault("60 bytes", -1, "Ma", 0, 60, sixty);
    fault("61 bytes", 3, "Ma", 0, 61, sixty, 27);
    fault("method's n in a device", 6, 'D', 'a', 5, "Mb", 0, 2, 24, 'a');
    fault("number", 3, "Na", 0);
    fault("number", 2, "Na");
    fault("package 7", 2, "Pa", 7, new int[14]);
    fault("package 6", -1, "Pa", 6, new int[12]);
    fault("package's value", 6, "Pa", 2, 0, 1, 0);
    fault("package in a device", 8, 'D', 'a', 5, "Pa", 2, 0, 1, 0, 1);
    fault("bank 5", 2, "Fa", 5, 0, 1, 0);
    fault("offset 64", 3, "Fa", 4, 64, 1, 0);
    fault("width 0", 4, "Fa", 4, 63, 0, 0);
    fault("width 17", 4, "Fa", 4, 0, 17, 0);
    fault("width 16", -1, "Fa", 4, 0, 16, 0);
    fault("49 and 16", 4, "Fa", 4, 49, 16, 0);
    fault("48 and 16", -1, "Fa", 4, 48, 16, 0);
    fault("rule 3", 5, "Fa", 4, 63, 1, 3);
    fault("no rule", 5, "Fa", 4, 63, 1);
  }

  private static void code(String what, int place, Object... code) {
    // The code begins at byte 4; a method with two arguments.
    fault(what, place == -1 ? -1 : place + 4, Check.method('m', 2, code));
  }

  private static void codeFaults() {
    code("nothing", -1);
    code("15", 0, 15, 0, 1);
    code("29", 0, 29, 0, 1);
    code("a term", 0, 0, 1);
    code("term 10", 1, 22, 10);
    code("no term", 1, 22);
    code("half a term", 2, 22, 0);
    code("two thirds of a term", 3, 22, 1, 1);
    code("local 4", 2, 22, 2, 4);
    code("local 3", -1, 22, 2, 3);
    code("arg 2", 2, 22, 3, 2);
    code("arg 1", -1, 22, 3, 1);
    fault("arg 0 of none", 6, Check.method('m', 0, 22, 3, 0));
    code("name", 2, 22, 4, 'A');
    code("called with 4", 3, 22, 5, 'm', 4);
    code("called with 3", 6, 22, 5, 'm', 3, 0, 1);
    code("called with 3", -1, 22, 5, 'm', 3, 0, 1, 0, 1, 0, 1);
    code("6", 3, 22, 6, 'p', 99);
    code("7 of 10", 2, 22, 7, 10, 0, 1, 0, 1);
    code("7 of 9", -1, 22, 7, 9, 0, 1, 0, 1);
    code("7's second", 5, 22, 7, 9, 0, 1);
    code("8", 2, 22, 8);
    code("9", 2, 22, 9, 0);
    code("8 deep", -1, 22, 8, 8, 8, 8, 8, 8, 8, 0, 1);
    code("9 deep", 9, 22, 8, 8, 8, 8, 8, 8, 8, 8, 0, 1);
    code("9 deep", 9, 22, 8, 8, 8, 8, 8, 8, 8, 8);
    int[] eight = {8, 8, 8, 8, 8, 8, 8, 0, 1};
    int[] nine = {8, 8, 8, 8, 8, 8, 8, 8, 0, 1};
    code("16, 17, 18, 19, 8 deep", -1, 16, 0, eight, 17, 'n', eight, 18, 'p', eight, eight, 19, eight, 0);
    code("21, 8 deep", -1, 21, eight, 0);
    code("16, 9 deep", 10, 16, 0, nine);
    code("17, 9 deep", 10, 17, 'n', nine);
    code("18, 9 deep", 10, 18, 'p', nine, eight);
    code("18's second, 9 deep", 19, 18, 'p', eight, nine);
    code("19, 9 deep", 9, 19, nine, 0);
    code("21, 9 deep", 9, 21, nine, 0);
    code("8 deep by 6", -1, 22, 6, 'p', 6, 'p', 6, 'p', 6, 'p', 6, 'p', 6, 'p', 6, 'p', 0, 1);
    code("9 deep by 6", 17, 22, 6, 'p', 6, 'p', 6, 'p', 6, 'p', 6, 'p', 6, 'p', 6, 'p', 6, 'p', 0, 1);
    code("8 deep by 7", -1, 22, 7, 0, 0, 1, 7, 0, 0, 1, 7, 0, 0, 1, 7, 0, 0, 1, 7, 0, 0, 1, 7, 0, 0, 1, 7, 0, 0, 1, 0, 1);
    code("9 deep by 5", 11, 22, 8, 8, 8, 8, 8, 8, 8, 5, 'm', 1, 0, 1);
    code("into local 4", 1, 16, 4, 0, 1);
    code("into local 3", -1, 16, 3, 0, 1);
    code("17 without a name", 1, 17, 4, 'n');
    code("18", 4, 18, 'p', 0, 0);
    code("24", 1, 24);
    code("25", 1, 25, 0);
    code("27", 0, 27);
    code("27 behind a 21", 4, 21, 0, 1, 0, 27);
    code("27 in a 21", -1, 21, 0, 1, 1, 27);
    code("27 in a 19 in a 21", -1, 21, 0, 1, 5, 19, 0, 1, 1, 27);
    code("27 behind a 20 in a 21", -1, 21, 0, 1, 7, 19, 0, 1, 0, 20, 1, 27);
    code("27 in a 19", 4, 19, 0, 1, 1, 27);
    code("19's n", 3, 19, 0, 1, 1);
    code("19 without n", 3, 19, 0, 1);
    code("19's bytes are over", 5, 19, 0, 1, 1, 22, 0, 1);
    code("a 19 in a 19 goes too far", 7, 19, 0, 1, 4, 19, 0, 1, 1, 27);
    code("20", 0, 20, 0);
    code("20 behind a 19", -1, 19, 0, 1, 0, 20, 0);
    code("20 without n", 5, 19, 0, 1, 0, 20);
    code("20's n", 5, 19, 0, 1, 0, 20, 1);
    code("20 behind a 20", 6, 19, 0, 1, 0, 20, 0, 20, 0);
    code("20 behind a 21", 4, 21, 0, 1, 0, 20, 0);
    code("20 behind another statement", 7, 19, 0, 1, 0, 22, 0, 1, 20, 0);
    code("20 behind a 19 that ends a 21", 8, 21, 0, 1, 4, 19, 0, 1, 0, 20, 0);
    code("20 behind a 19 that ends a 19", -1, 19, 0, 1, 4, 19, 0, 1, 0, 20, 0);
    code("20 behind a 19 that ends a 20", 10, 19, 0, 1, 0, 20, 4, 19, 0, 1, 0, 20, 0);
    code("28", -1, 28, 0, 1);
    fault("what is behind a method", 7, Check.method('m', 0, 22, 0, 1), 'l', 'z');
  }

  /** What was open when a table faulted is not open in the next one. */
  private static void faultsAnew() {
    RestBoard x = new RestBoard();
    check.due("a fault in a 21", Check.load(x, 0, Check.method('m', 0, 21, 0, 1, 1, 99)), -6);
    check.due("its place", x.fault(), 8);
    check.due("a 27 outside of any", Check.load(x, 0, Check.method('m', 0, 27)), -6);
    check.due("its place", x.fault(), 4);
    check.due("a fault in a device", Check.load(x, 0, Check.device('d', Check.device('e', "X"))), -6);
    check.due("its place", x.fault(), 6);
    check.due("below the root", Check.load(x, 0, Check.lock('l')), 1);
    check.due("its parent", x.node(1, 2), 0);
    check.due("no fault", x.fault(), -1);
  }

  private static void nodesOver() {
    int[] many = {};
    for (int i = 0; i < 26; i++) {
      many = Check.bytes(many, 'L', 97 + i);
    }
    RestBoard x = Check.board(many);
    check.due("a device", Check.load(x, 0, Check.lock('a')), -6);
    check.due("26 names are over", x.fault(), 1);
    x.undo();
    x = Check.board(Check.device('a', Check.lock('a'), Check.lock('b'), Check.lock('c'), Check.lock('d'), Check.lock('e')),
        java.util.Arrays.copyOfRange(many, 2, 50));
    check.due("31 nodes", x.count(0), 31);
    check.due("two more", Check.load(x, 1, Check.lock('f'), Check.lock('g')), -6);
    check.due("the 33rd", x.fault(), 2);
    check.due("still 31", x.count(0), 31);
    check.due("one more", Check.load(x, 1, Check.lock('f')), 1);
    check.due("32", x.count(0), 32);
    check.due("33", Check.load(x, 1, Check.lock('g')), -6);
    check.due("33: fault", x.fault(), 0);
    int[] deep = Check.bytes("Lx");
    for (int i = 0; i < 30; i++) {
      deep = Check.device('d', deep);
    }
    x = Check.board(deep);
    check.due("30 devices in one another", x.count(0), 32);
    check.due("from the innermost", x.lookUp(30, 'x'), 31);
    check.due("up to the root", x.lookUp(30, 'y'), -1);
    check.due("the innermost rests first", x.order(0), 30);
    deep = Check.device('d', Check.device('d', deep));
    x = new RestBoard();
    check.due("32 in one another", Check.load(x, 0, deep), -6);
    check.due("32 in one another: fault", x.fault(), 93);
  }
}
