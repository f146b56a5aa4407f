import java.util.Arrays;

/** The edges that 'Terms' II and promises 6, 7, 25 and 26 name: values, steps, each error, traces, locks, fields. */
public final class RunEdgeTest {
  private static final Check check = new Check("RunEdgeTest");

  public static void main(String[] args) {
    localsAreZero();
    argsItHas();
    sums();
    sumsInTerms();
    fromTheLeft();
    lookedUpLast();
    lookedUpFromItsParent();
    comesToItsEnd();
    valuesByName();
    isItOn();
    intoLocals();
    intoPackages();
    ifAndElse();
    asLongAs();
    outOfTheInnermost();
    notesOfItsParent();
    whichSum();
    locksAsOftenAsOneLikes();
    locksOfAnotherRun();
    forgottenInAnyWay();
    forgottenEach();
    stepsOfTerms();
    stepsOfStatements();
    aThousandSteps();
    aThousandOfAll();
    nothingByTheStepTooMany();
    namesOfOtherKinds();
    anotherNumberOfArgs();
    valuesOfPackages();
    byZero();
    aSeventhMethod();
    locksItCannotRelease();
    reasons();
    whichErrorFirst();
    placesOfCallers();
    placesWithin();
    storedStays();
    fields();
    selecting();
    fieldsOfMethods();
    cutToWidth();
    storing();
    storesRefused();
    calling();
    callsRefused();
    trying();
    triesRefused();
    triesThatFail();
    errorsTold();
    check.finish();
  }

  private static int[] row(Object... parts) {
    return Check.bytes(parts);
  }

  /** A board whose node 1 is a method of that code, without arguments. */
  private static RestBoard coded(Object... code) {
    return Check.board(Check.method('m', 0, code));
  }

  private static int run(Object... code) {
    return coded(code).call(1, 0, 0, 0);
  }

  private static void localsAreZero() {
    check.says("LOCALS are 0");
    for (int local = 0; local <= 3; local++) {
      RestBoard x = Check.board(Check.method('a', 0, 16, local, 7, 0, 2, local, 0, 1, 22, 2, local), Check.method('b', 0, 22, 7, 0, 5, 'a', 0, 5, 'a', 0));
      check.due("once", x.call(1, 0, 0, 0), 1);
      check.due("and again", x.call(1, 0, 0, 0), 1);
      check.due("twice by another", x.call(2, 0, 0, 0), 2);
    }
    // Each run has its own: what the inner one stores is not the outer one's.
    RestBoard x = Check.board(Check.method('a', 1, 26, 2, 0, 16, 0, 7, 0, 3, 0, 0, 40, Check.block(19, row(3, 0), 23, 5, 'a', 1, 7, 1, 3, 0, 0, 1), 26, 2, 0));
    x.call(1, 2, 0, 0);
    check.row("in one another", Check.notes(x), 0, 42, 0, 41, 0, 40, 0, 0, 0, 0, 0, 0);
  }

  private static void argsItHas() {
    check.says("ARGS are a, b, c, as many as it has");
    for (int args = 0; args <= 3; args++) {
      int[] code = {22, 0, 7};
      for (int i = 0; i < args; i++) {
        code = row(26, 3, i, code);
      }
      RestBoard x = Check.board(Check.method('m', args, code));
      check.due("returns", x.call(1, 65535, 0, 300), 7);
      int[][] due = {{}, {0, 65535}, {0, 65535, 0, 0}, {0, 65535, 0, 0, 0, 300}};
      check.row("args of " + args, Check.notes(x), due[args]);
    }
  }

  private static long sum(int how, long a, long b) {
    long[] all = {a + b, a - b, a * b, b == 0 ? -7 : a / b, b == 0 ? -7 : a % b, a & b, a | b, a ^ b, a < b ? 1 : 0, a == b ? 1 : 0};
    return (how == 3 || how == 4) && b == 0 ? -7 : Math.floorMod(all[how], 65536L);
  }

  private static void sums() {
    check.says("VALUES are 0 .. 65,535, sums and all else modulo 65,536.");
    int[] edges = {0, 1, 2, 3, 127, 128, 255, 256, 257, 32767, 32768, 32769, 65533, 65534, 65535};
    for (int how = 0; how <= 9; how++) {
      for (int a : edges) {
        RestBoard x = Check.board(Check.method('m', 2, 22, 7, how, 3, 0, 3, 1));
        for (int b : edges) {
          check.due("7 " + how + " of " + a + " and " + b, x.call(1, a, b, 0), sum(how, a, b));
        }
      }
    }
    check.says("8 TERM (1 of 0, else 0)");
    RestBoard x = Check.board(Check.method('m', 1, 22, 8, 3, 0));
    for (int a : edges) {
      check.due("8 of " + a, x.call(1, a, 0, 0), a == 0 ? 1 : 0);
    }
    check.says("1 h l (256 times h, and l)");
    check.due("0 0", run(22, 1, 0, 0), 0);
    check.due("0 255", run(22, 1, 0, 255), 255);
    check.due("1 0", run(22, 1, 1, 0), 256);
    check.due("255 255", run(22, 1, 255, 255), 65535);
    check.says("0 b (b)");
    check.due("0", run(22, 0, 0), 0);
    check.due("255", run(22, 0, 255), 255);
  }

  private static void sumsInTerms() {
    check.says("VALUES are 0 .. 65,535, sums and all else modulo 65,536.");
    int[] above = {7, 0, 1, 255, 255, 0, 2};
    int[] below = {7, 1, 0, 1, 0, 2};
    int[] times = {7, 2, 1, 255, 255, 1, 255, 255};
    check.due("65,535 and 2, half of it", run(22, 7, 3, above, 0, 2), 0);
    check.due("1 less 2, half of it", run(22, 7, 3, below, 0, 2), 32767);
    check.due("the product is 1", run(22, 7, 9, times, 0, 1), 1);
    check.due("into a local", run(16, 2, below, 22, 7, 8, 0, 9, 2, 2), 1);
    RestBoard x = Check.board(Check.number('n', 5), Check.pack('p', 5), Check.method('m', 0, 17, 'n', below, 18, 'p', above, 0, 1, 26, below));
    check.due("a value of a package by a sum", x.call(3, 0, 0, 0), -7);
    check.due("a number", x.node(1, 8), 65535);
    x = Check.board(Check.pack('p', 5, 6), Check.method('m', 0, 18, 'p', above, below, 26, below, 28, below));
    check.due("fails with it", x.call(2, 0, 0, 0), -7);
    check.due("value 1 by a sum", x.node(1, 11), 65535);
    check.due("a note", x.note(0, 1), 65535);
    check.due("a reason", x.error(1), 65535);
  }

  private static void fromTheLeft() {
    check.says("TERMS are reckoned from the left;");
    int[] n = Check.method('n', 1, 26, 3, 0, 22, 3, 0);
    int[] three = Check.method('t', 3);
    int[] one = {5, 'n', 1, 0, 1};
    int[] two = {5, 'n', 1, 0, 0};
    RestBoard x = Check.board(n, three, Check.pack('p', 0, 0), Check.method('a', 0, 23, 7, 1, one, two), Check.method('b', 0, 18, 'p', one, two),
        Check.method('c', 0, 23, 5, 't', 3, one, two, one), Check.method('d', 0, 23, 7, 0, 7, 1, one, two, one));
    x.call(4, 0, 0, 0);
    check.row("7", Check.notes(x), 0, 0, 0, 1);
    x.undo();
    x.call(5, 0, 0, 0);
    check.row("18", Check.notes(x), 0, 0, 0, 1);
    check.due("the first is the place", x.node(3, 11), 0);
    x.undo();
    x.call(6, 0, 0, 0);
    check.row("5", Check.notes(x), 0, 1, 0, 0, 0, 1);
    x.undo();
    x.call(7, 0, 0, 0);
    check.row("7 in a 7", Check.notes(x), 0, 1, 0, 0, 0, 1);
    // What the first stores the second finds.
    x = Check.board(Check.number('n', 1), Check.method('s', 0, 17, 'n', 0, 9, 22, 0, 4), Check.method('m', 0, 22, 7, 2, 5, 's', 0, 4, 'n'),
        Check.method('o', 0, 22, 7, 2, 4, 'n', 5, 's', 0));
    check.due("stored ahead", x.call(3, 0, 0, 0), 36);
    x.undo();
    check.due("stored behind", x.call(4, 0, 0, 0), 4);
  }

  /** A term that leaves a note and fails by 0. */
  private static final int[] NOTE_AND_FAIL = {7, 3, 5, 'n', 0, 0, 0};

  private static void lookedUpLast() {
    check.says("a NAME is LOOKED UP from the METHOD's PARENT when all TERMS of its own are reckoned.");
    int[][] codes = {row(23, 5, 'x', 1, NOTE_AND_FAIL), row(23, 5, 'x', 3, 0, 1, 0, 1, NOTE_AND_FAIL), row(23, 6, 'x', NOTE_AND_FAIL),
      row(17, 'x', NOTE_AND_FAIL), row(18, 'x', NOTE_AND_FAIL, 0, 1), row(18, 'x', 0, 1, NOTE_AND_FAIL)};
    for (int[] code : codes) {
      RestBoard x = Check.board(Check.method('n', 0, 26, 0, 5), Check.method('m', 0, code));
      check.due("fails", x.call(2, 0, 0, 0), -7);
      check.due("by its term, not by its name: " + Arrays.toString(code), x.error(0), 4);
      check.due("the note", x.count(9), 1);
    }
    int[] note = {5, 'n', 0};
    int[][] names = {row(23, 5, 'x', 1, note), row(23, 6, 'x', note), row(17, 'x', note), row(18, 'x', note, note)};
    for (int[] code : names) {
      RestBoard x = Check.board(Check.method('n', 0, 26, 0, 5), Check.method('m', 0, code));
      check.due("fails", x.call(2, 0, 0, 0), -7);
      check.due("by its name then", x.error(0), 1);
      check.due("all terms were reckoned", x.count(9), code[0] == 18 ? 2 : 1);
    }
  }

  private static void lookedUpFromItsParent() {
    check.says("a NAME is LOOKED UP from the METHOD's PARENT");
    RestBoard x = Check.board(Check.number('n', 1), Check.method('g', 0, 22, 4, 'n'),
        Check.device('d', Check.number('n', 2), Check.method('h', 0, 22, 4, 'n'), Check.method('c', 0, 22, 5, 'g', 0),
            Check.device('e', Check.number('n', 3), Check.method('c', 0, 22, 5, 'h', 0), Check.method('k', 0, 22, 4, 'o'))));
    check.due("of the root", x.call(2, 0, 0, 0), 1);
    check.due("of a device", x.call(5, 0, 0, 0), 2);
    check.due("not from where it was called", x.call(6, 0, 0, 0), 1);
    check.due("not from where it was called, further in", x.call(9, 0, 0, 0), 2);
    check.due("none up to the root", x.call(10, 0, 0, 0), -7);
    Check.load(x, 0, Check.number('o', 8));
    check.due("the root's", x.call(10, 0, 0, 0), 8);
  }

  private static void comesToItsEnd() {
    check.says("It RETURNS 0, if it comes to its end.");
    check.due("no code", run(), 0);
    check.due("behind a term", run(23, 0, 9), 0);
    check.due("behind a 19", run(Check.block(19, row(0, 0), 22, 0, 9)), 0);
    check.due("in a 19", run(Check.block(19, row(0, 1), 23, 0, 9)), 0);
    check.due("behind a 21", run(Check.block(21, row(0, 0), 22, 0, 9)), 0);
    check.due("out of a 21", run(Check.block(21, row(0, 1), 27)), 0);
    check.due("22", run(22, 0, 9), 9);
    check.due("the first 22", run(22, 0, 9, 22, 0, 8), 9);
    RestBoard x = Check.board(Check.method('a', 0, 23, 0, 9), Check.method('m', 0, 22, 7, 0, 0, 5, 5, 'a', 0));
    check.due("in a term", x.call(2, 0, 0, 0), 5);
  }

  private static void valuesByName() {
    check.says("4 NAME (a NUMBER's, a FIELD's VALUE)");
    RestBoard x = Check.board(Check.number('n', 65535), Check.field('f', 3, 55, 9, 0), Check.method('a', 0, 22, 4, 'n'), Check.method('b', 0, 22, 4, 'f'));
    check.due("number", x.call(3, 0, 0, 0), 65535);
    check.due("field", x.call(4, 0, 0, 0), 0);
    x.store(1, 0);
    x.store(2, 511);
    check.due("number", x.call(3, 0, 0, 0), 0);
    check.due("field", x.call(4, 0, 0, 0), 511);
    check.says("17 NAME TERM (into a NUMBER, a FIELD, there cut to WIDTH)");
    x = Check.board(Check.number('n', 5), Check.field('f', 3, 55, 9, 0), Check.method('m', 1, 17, 'n', 3, 0, 17, 'f', 3, 0));
    x.call(3, 65535, 0, 0);
    check.due("number", x.node(1, 8), 65535);
    check.due("field", x.node(2, 8), 511);
    x.call(3, 0, 0, 0);
    check.due("number", x.node(1, 8), 0);
    check.due("field", x.node(2, 8), 0);
  }

  private static void isItOn() {
    check.says("9 NAME (1 if a RESOURCE is ON, else 0).");
    RestBoard x = Check.board(Check.resource('a', 0, 0), Check.method('m', 0, 22, 9, 'a'), Check.device('d', Check.pack('p', 'a', 'a', 'a')), Check.device('e', Check.pack('w', 1, 1, 'a')));
    check.due("off", x.call(2, 0, 0, 0), 0);
    x.arm(5);
    check.due("counted once", x.call(2, 0, 0, 0), 1);
    x.power(3, 0);
    check.due("counted four times", x.call(2, 0, 0, 0), 1);
    x.disarm(5);
    x.power(3, 3);
    check.due("off again", x.call(2, 0, 0, 0), 0);
  }

  private static void intoLocals() {
    check.says("16 k TERM (into LOCAL k)");
    for (int k = 0; k <= 3; k++) {
      for (int other = 0; other <= 3; other++) {
        check.due("into " + k + ", from " + other, run(16, k, 1, 255, 255, 22, 2, other), k == other ? 65535 : 0);
      }
      check.due("the latest", run(16, k, 0, 3, 16, k, 7, 2, 2, k, 2, k, 22, 2, k), 9);
    }
  }

  private static void intoPackages() {
    check.says("18 NAME TERM TERM (into VALUE so many (the first TERM) of a PACKAGE)");
    for (int which = 0; which < 6; which++) {
      RestBoard x = Check.board(Check.pack('p', 1, 2, 3, 4, 5, 6), Check.method('m', 2, 18, 'p', 3, 0, 3, 1, 22, 6, 'p', 3, 0));
      check.due("what is there then", x.call(2, which, 65535, 0), 65535);
      for (int i = 0; i < 6; i++) {
        check.due("value " + i, x.node(1, 10 + i), i == which ? 65535 : i + 1);
      }
      check.due("0", x.call(2, which, 0, 0), 0);
      check.due("so many still", x.node(1, 9), 6);
    }
  }

  private static void ifAndElse() {
    check.says("(n bytes of them: run if TERM isn't 0; those behind 20 if it is)");
    int[] then = {26, 0, 1};
    int[] other = {26, 0, 2};
    int[] last = {26, 0, 3};
    for (int value : new int[] {0, 1, 2, 255, 256, 32768, 65535}) {
      RestBoard x = Check.board(Check.method('a', 1, Check.block(19, row(3, 0), then), last), Check.method('b', 1, Check.block(19, row(3, 0), then), Check.otherwise(other), last),
          Check.method('c', 1, 19, 3, 0, 0, Check.otherwise(other), last), Check.method('d', 1, Check.block(19, row(3, 0), then), Check.otherwise(), last));
      boolean is = value != 0;
      x.call(1, value, 0, 0);
      check.row("19 of " + value, Check.notes(x), is ? new int[] {0, 3, 0, 1} : new int[] {0, 3});
      x.undo();
      x.call(2, value, 0, 0);
      check.row("19 and 20 of " + value, Check.notes(x), 0, 3, 0, is ? 1 : 2);
      x.undo();
      x.call(3, value, 0, 0);
      check.row("an empty 19 of " + value, Check.notes(x), is ? new int[] {0, 3} : new int[] {0, 3, 0, 2});
      x.undo();
      x.call(4, value, 0, 0);
      check.row("an empty 20 of " + value, Check.notes(x), is ? new int[] {0, 3, 0, 1} : new int[] {0, 3});
    }
    check.due("a 22 in it", run(Check.block(19, row(0, 1), 22, 0, 7), Check.otherwise(22, 0, 8), 22, 0, 9), 7);
    check.due("a 22 in the other", run(Check.block(19, row(0, 0), 22, 0, 7), Check.otherwise(22, 0, 8), 22, 0, 9), 8);
  }

  private static void asLongAs() {
    check.says("21 TERM n {STATEMENT} (as long as TERM is not 0)");
    int[] down = {16, 0, 7, 1, 2, 0, 0, 1};
    RestBoard x = Check.board(Check.method('m', 1, 16, 0, 3, 0, Check.block(21, row(2, 0), 16, 1, 7, 0, 2, 1, 0, 1, down), 22, 2, 1));
    for (int times : new int[] {0, 1, 2, 10, 110}) {
      check.due(times + " times", x.call(1, times, 0, 0), times);
    }
    check.due("of 65,535", run(16, 0, 1, 255, 255, Check.block(21, row(2, 0), 16, 1, 7, 0, 2, 1, 0, 1, 16, 0, 0, 0), 22, 2, 1), 1);
    // Its term is reckoned ahead of each turn, with what the turn before stored.
    x = Check.board(Check.method('n', 0, 26, 0, 5, 22, 0, 0), Check.method('m', 0, Check.block(21, row(5, 'n', 0), 26, 0, 6)));
    x.call(2, 0, 0, 0);
    check.row("never, but reckoned once", Check.notes(x), 0, 5);
    check.due("a loop in a loop", run(16, 0, 0, 3, Check.block(21, row(2, 0), 16, 2, 0, 4, Check.block(21, row(2, 2), 16, 1, 7, 0, 2, 1, 0, 1, 16, 2, 7, 1, 2, 2, 0, 1), down), 22, 2, 1), 12);
    check.due("an empty one that is never run", run(21, 0, 0, 0, 22, 0, 9), 9);
  }

  private static void outOfTheInnermost() {
    check.says("27 (out of the innermost 21)");
    int[] one = {0, 1};
    check.due("at once", run(Check.block(21, one, 27, 22, 0, 8), 22, 0, 9), 9);
    check.due("in a 19", run(Check.block(21, one, Check.block(19, one, 27, 22, 0, 7), 22, 0, 8), 22, 0, 9), 9);
    check.due("behind a 20", run(Check.block(21, one, 19, 0, 0, 0, Check.otherwise(27, 22, 0, 7), 22, 0, 8), 22, 0, 9), 9);
    check.due("in three 19s", run(Check.block(21, one, Check.block(19, one, Check.block(19, one, Check.block(19, one, 27))), 22, 0, 8), 22, 0, 9), 9);
    check.due("of two, the inner", run(Check.block(21, one, Check.block(21, one, 27, 22, 0, 7), 22, 0, 8), 22, 0, 9), 8);
    check.due("of two, both", run(Check.block(21, one, Check.block(21, one, 27), 27, 22, 0, 8), 22, 0, 9), 9);
    check.due("of two, in a 19 of the inner", run(Check.block(21, one, Check.block(21, one, Check.block(19, one, 27)), 22, 0, 8), 22, 0, 9), 8);
    check.due("behind the inner, in a 19", run(Check.block(21, one, Check.block(21, one, 27), Check.block(19, one, 27), 22, 0, 8), 22, 0, 9), 9);
    check.due("the 21 ends the code", run(16, 0, 0, 5, Check.block(21, one, 27)), 0);
    check.due("a 20 behind a 19 that has a 21", run(Check.block(19, one, Check.block(21, one, 27)), Check.otherwise(22, 0, 8), 22, 0, 9), 9);
  }

  private static void notesOfItsParent() {
    check.says("26 TERM (a NOTE of the METHOD's PARENT)");
    int[] n = Check.method('n', 1, 26, 3, 0);
    RestBoard x = Check.board(n, Check.device('d', n, Check.method('m', 1, 23, 5, 'n', 1, 3, 0), Check.device('e', Check.method('m', 1, 23, 5, 'n', 1, 3, 0))));
    x.call(1, 0, 0, 0);
    x.call(3, 65535, 0, 0);
    x.call(4, 7, 0, 0);
    x.call(6, 8, 0, 0);
    check.row("of where the method is, not of who called", Check.notes(x), 2, 8, 2, 7, 2, 65535, 0, 0);
  }

  private static void whichSum() {
    check.says("sum, difference, product, quotient, rest, bits that both have, that one has, that just one has, 1 if the first is less, 1 if both are alike)");
    int[] due = {82, 10, 1656, 1, 10, 36, 46, 10, 0, 0};
    for (int how = 0; how <= 9; how++) {
      check.due("7 " + how + " of 46 and 36", run(22, 7, how, 0, 46, 0, 36), due[how]);
    }
    check.due("less", run(22, 7, 8, 0, 11, 0, 12), 1);
    check.due("alike, not less", run(22, 7, 8, 0, 12, 0, 12), 0);
    check.due("alike", run(22, 7, 9, 0, 12, 0, 12), 1);
    check.due("rest", run(22, 7, 4, 0, 47, 0, 12), 11);
    check.due("quotient", run(22, 7, 3, 0, 47, 0, 12), 3);
  }

  private static void locksAsOftenAsOneLikes() {
    check.says("LOCKS: acquired as often as one likes;");
    int[] code = {};
    for (int i = 0; i < 15; i++) {
      code = row(24, 'l', code, 25, 'l');
    }
    RestBoard x = Check.board("Ll", Check.method('m', 0, code));
    check.due("15 times", x.call(2, 0, 0, 0), 0);
    check.due("none forgotten", x.node(1, 24), 0);
    // A loop acquires it 198 times.
    x = Check.board("Ll", Check.method('m', 1, 16, 0, 3, 0, Check.block(21, row(2, 0), 24, 'l', 16, 0, 7, 1, 2, 0, 0, 1)));
    check.due("150 times", x.call(2, 150, 0, 0), 0);
    check.due("all forgotten", x.node(1, 24), 150);
    // Two runs of a method in one another both acquire it.
    x = Check.board("Ll", Check.method('m', 1, 24, 'l', Check.block(19, row(3, 0), 23, 5, 'm', 1, 7, 1, 3, 0, 0, 1), 25, 'l'));
    check.due("six of them", x.call(2, 5, 0, 0), 0);
    check.due("none forgotten", x.node(1, 24), 0);
  }

  private static void locksOfAnotherRun() {
    check.says("released by the same run of a METHOD as it acquired them, not more often.");
    RestBoard x = Check.board("Ll", "Lo", Check.method('a', 0, 24, 'l', 23, 5, 'b', 0), Check.method('b', 0, 25, 'l'), Check.method('c', 0, 23, 5, 'd', 0, 25, 'l'),
        Check.method('d', 0, 24, 'l'), Check.method('e', 1, Check.block(19, row(3, 0), 24, 'l', 23, 5, 'e', 1, 0, 0, 22, 0, 1), 25, 'l'),
        Check.method('f', 0, 24, 'l', 25, 'o'), Check.method('g', 0, 24, 'l', 25, 'l', 25, 'l'));
    int[] fail = {3, 5, 7, 8, 9};
    for (int method : fail) {
      check.due("method " + method, x.call(method, 1, 0, 0), -7);
      check.due("method " + method + ": error", x.error(0), 7);
    }
    check.due("what the first had", x.tries(3, 0, 0, 0, 2), 1);
    check.due("what one called had", x.tries(5, 0, 0, 0, 2), 1);
    check.due("what the same method had, run before", x.tries(7, 1, 0, 0, 2), 1);
    check.due("another lock", x.tries(8, 0, 0, 0, 2), 1);
    check.due("twice", x.tries(9, 0, 0, 0, 2), 0);
    check.due("by the next call", x.call(6, 0, 0, 0), 0);
    check.due("by the next call", x.call(4, 0, 0, 0), -7);
  }

  private static void forgottenInAnyWay() {
    check.says("Whatever way a run of a METHOD ends, LOCKS that it acquired and did not release are released (each of these is FORGOTTEN).");
    int[][] ends = {row(), row(22, 0, 1), row(28, 0, 1), row(22, 7, 3, 0, 1, 0, 0), row(23, 4, 'x'), row(23, 5, 'f', 0), row(21, 0, 1, 0), row(23, 5, 'm', 0),
      row(Check.block(21, row(0, 1), 27)), row(Check.block(21, row(0, 1), 22, 0, 3)), row(Check.block(19, row(0, 1), 28, 0, 3)), row(25, 'o')};
    // A method that calls itself acquires the lock six times.
    int[] due = {1, 1, 1, 1, 1, 1, 1, 6, 1, 1, 1, 1};
    for (int i = 0; i < ends.length; i++) {
      RestBoard x = Check.board("Ll", "Lo", Check.method('f', 0, 28, 0, 9), Check.method('m', 0, 24, 'l', ends[i]));
      check.due("would be", x.tries(4, 0, 0, 0, 2), due[i]);
      x.call(4, 0, 0, 0);
      check.due("by " + Arrays.toString(ends[i]), x.node(1, 24), due[i]);
      check.due("no other", x.node(2, 24), 0);
    }
    RestBoard x = Check.board("Ll", "Lo", Check.method('a', 0, 24, 'l', 23, 5, 'b', 0), Check.method('b', 0, 24, 'o', 28, 0, 1));
    x.call(3, 0, 0, 0);
    check.due("of the one that called", x.node(1, 24), 1);
    check.due("of the one that failed", x.node(2, 24), 1);
    check.due("both", x.tries(3, 0, 0, 0, 2), 2);
    // The last node can be a lock, too.
    int[] many = {};
    for (int i = 0; i < 25; i++) {
      many = row(many, 'N', 'a' + i, 0, 0);
    }
    x = Check.board(many, Check.device('z', Check.method('m', 0, 24, 'z', 24, 'z', 25, 'z'), "La", "Lb", "Lc", "Lz"));
    check.due("node 31", x.node(31, 0), 7);
    check.due("run", x.call(27, 0, 0, 0), 0);
    check.due("forgotten", x.node(31, 24), 1);
  }

  private static void forgottenEach() {
    check.says("of a LOCK how many were FORGOTTEN (24)");
    RestBoard x = Check.board("Ll", "Lo", Check.method('m', 0, 24, 'l', 24, 'o', 24, 'l', 24, 'l', 25, 'l'));
    check.due("none yet", x.node(1, 24), 0);
    x.call(3, 0, 0, 0);
    check.due("twice", x.node(1, 24), 2);
    check.due("once", x.node(2, 24), 1);
    check.due("all of them", x.tries(3, 0, 0, 0, 2), 3);
    x.call(3, 0, 0, 0);
    check.due("four times", x.node(1, 24), 4);
    x.undo();
    check.due("undone", x.node(1, 24), 2);
  }

  private static int steps(Object... code) {
    RestBoard x = Check.board(Check.number('n', 1), Check.pack('p', 1), Check.resource('a', 0, 0), "Ll", Check.field('f', 0, 0, 16, 0), Check.method('z', 0),
        Check.method('w', 3), Check.method('m', 1, code));
    x.call(8, 1, 0, 0);
    return x.count(11);
  }

  private static void stepsOfTerms() {
    check.says("STEPS: each TERM, each STATEMENT that is begun (20 is none).");
    check.due("nothing", steps(), 0);
    check.due("0", steps(23, 0, 1), 2);
    check.due("1", steps(23, 1, 0, 1), 2);
    check.due("2", steps(23, 2, 0), 2);
    check.due("3", steps(23, 3, 0), 2);
    check.due("4", steps(23, 4, 'n'), 2);
    check.due("4 of a field", steps(23, 4, 'f'), 2);
    check.due("5", steps(23, 5, 'z', 0), 2);
    check.due("5 of three", steps(23, 5, 'w', 3, 0, 1, 0, 1, 0, 1), 5);
    check.due("6", steps(23, 6, 'p', 0, 0), 3);
    check.due("7", steps(23, 7, 0, 0, 1, 0, 1), 4);
    check.due("8", steps(23, 8, 0, 1), 3);
    check.due("9", steps(23, 9, 'a'), 2);
    check.due("a term that fails", steps(23, 4, 'x'), 2);
    check.due("a term behind one that fails is not begun", steps(23, 7, 0, 4, 'x', 0, 1), 3);
  }

  private static void stepsOfStatements() {
    check.says("STEPS: each TERM, each STATEMENT that is begun (20 is none).");
    check.due("16", steps(16, 0, 0, 1), 2);
    check.due("17", steps(17, 'n', 0, 1), 2);
    check.due("18", steps(18, 'p', 0, 0, 0, 1), 3);
    check.due("19, run", steps(19, 0, 1, 2, 24, 'l'), 3);
    check.due("19, not run", steps(19, 0, 0, 2, 24, 'l'), 2);
    check.due("20, run", steps(19, 0, 0, 2, 24, 'l', 20, 2, 24, 'l'), 3);
    check.due("20, not run", steps(19, 0, 1, 2, 24, 'l', 20, 2, 24, 'l'), 3);
    check.due("20 of an empty 19", steps(19, 0, 1, 0, 20, 2, 24, 'l'), 2);
    check.due("an empty 20", steps(19, 0, 0, 0, 20, 0), 2);
    check.due("21, never", steps(21, 0, 0, 2, 24, 'l'), 2);
    check.due("21, once: its term again", steps(16, 0, 0, 1, Check.block(21, row(2, 0), 16, 0, 0, 0)), 2 + 2 + 2 + 1);
    check.due("21, left: its term not again", steps(21, 0, 1, 1, 27), 3);
    check.due("22", steps(22, 0, 1), 2);
    check.due("behind a 22 nothing is begun", steps(22, 0, 1, 24, 'l'), 2);
    check.due("24, 25", steps(24, 'l', 25, 'l'), 2);
    check.due("26", steps(26, 0, 1), 2);
    check.due("28", steps(28, 0, 1), 2);
    check.due("a statement that fails", steps(25, 'l'), 1);
  }

  /** 996 steps with the 22 and its term at the end; so many 23s of two steps and of three lie ahead of that. */
  private static int[] long996(int twos, int threes) {
    int[] code = row(16, 0, 1, 0, 198, Check.block(21, row(2, 0), 16, 0, 7, 1, 2, 0, 0, 1));
    for (int i = 0; i < twos; i++) {
      code = row(code, 23, 0, 1);
    }
    for (int i = 0; i < threes; i++) {
      code = row(code, 23, 8, 0, 1);
    }
    return row(code, 22, 0, 7);
  }

  private static void aThousandSteps() {
    check.says("6 a 1,001st STEP (of all that one call runs);");
    int[][] fine = {{0, 0, 996}, {1, 0, 998}, {0, 1, 999}, {2, 0, 1000}};
    for (int[] row : fine) {
      RestBoard x = coded(long996(row[0], row[1]));
      check.due("steps on paper", x.tries(1, 0, 0, 0, 1), row[2]);
      check.due("returns", x.call(1, 0, 0, 0), 7);
      check.due("steps", x.count(11), row[2]);
      check.due("no error", x.error(0), 0);
    }
    // The 1,001st step is the last term, the 22, a term of the last 23, ..
    int[][] fails = {{1, 1}, {3, 0}, {0, 2}, {2, 1}, {4, 0}, {0, 3}, {2, 2}, {5, 0}, {1, 2}};
    for (int[] row : fails) {
      RestBoard x = coded(long996(row[0], row[1]));
      check.due("too many", x.call(1, 0, 0, 0), -7);
      check.due("a thousand were", x.count(11), 1000);
      check.due("on paper", x.tries(1, 0, 0, 0, 1), 1000);
      check.due("told on paper", x.tries(1, 0, 0, 0, 0), -7);
      check.row("place of " + Arrays.toString(row), Check.error(x), 6, 0, 1, placeOfStep1001(long996(row[0], row[1])));
    }
  }

  /** Where step 1,001 begins: 996 less two steps lie in the first 17 bytes, then a step is a byte that begins something. */
  private static int placeOfStep1001(int[] code) {
    int at = 17;
    int step = 994;
    while (true) {
      step++;
      if (step == 1001) {
        return at;
      }
      at += code[at] == 0 ? 2 : 1;
    }
  }

  private static void aThousandOfAll() {
    check.says("6 a 1,001st STEP (of all that one call runs);");
    int[] turns = Check.method('a', 1, 16, 0, 3, 0, Check.block(21, row(2, 0), 16, 0, 7, 1, 2, 0, 0, 1), 22, 0, 1);
    int[] both = {23, 5, 'a', 1, 3, 0, 23, 5, 'a', 1, 3, 1};
    RestBoard x = Check.board(turns, Check.method('b', 2, both, 22, 0, 7), Check.method('c', 2, both, 23, 0, 1, 22, 0, 7));
    check.due("98 and 98", x.call(2, 98, 98, 0), 7);
    check.due("98 and 98: steps", x.count(11), 1000);
    check.due("196 and 0", x.call(2, 196, 0, 0), 7);
    check.due("0 and 196", x.call(2, 0, 196, 0), 7);
    check.due("one more statement", x.call(3, 98, 98, 0), -7);
    check.row("one more statement: in the one that called", Check.error(x), 6, 0, 3, 15);
    check.due("197", x.call(2, 0, 197, 0), -7);
    check.row("197: in the one that was called", Check.error(x), 6, 0, 1, 5, 2, 7);
    check.due("199 at first", x.call(2, 199, 0, 0), -7);
    check.row("199 at first: in a sum of the last turn", Check.error(x), 6, 0, 1, 14, 2, 1);
    check.due("each call has its own thousand", x.call(2, 98, 98, 0), 7);
  }

  private static void nothingByTheStepTooMany() {
    check.says("6 a 1,001st STEP (of all that one call runs);");
    int[] thousand = Arrays.copyOf(long996(3, 0), 17 + 9);
    int[] at999 = row(Arrays.copyOf(long996(1, 0), 17 + 3), 23, 8, 0, 1);
    RestBoard x = Check.board("Ll", Check.number('n', 1), Check.method('f', 0, 26, 0, 9), Check.method('a', 0, thousand, 24, 'l'),
        Check.method('b', 0, at999, 17, 'n', 0, 5), Check.method('c', 0, at999, 26, 0, 5), Check.method('d', 0, at999, 23, 5, 'f', 0),
        Check.method('e', 0, thousand));
    check.due("just a thousand", x.call(8, 0, 0, 0), 0);
    check.due("just a thousand", x.count(11), 1000);
    check.due("24", x.call(4, 0, 0, 0), -7);
    check.row("24", Check.error(x), 6, 0, 4, 26);
    check.due("nothing was acquired", x.node(1, 24), 0);
    check.due("17's term", x.call(5, 0, 0, 0), -7);
    check.row("17's term", Check.error(x), 6, 0, 5, 26);
    check.due("nothing was stored", x.node(2, 8), 1);
    check.due("26's term", x.call(6, 0, 0, 0), -7);
    check.row("26's term", Check.error(x), 6, 0, 6, 25);
    check.due("23's term", x.call(7, 0, 0, 0), -7);
    check.row("23's term", Check.error(x), 6, 0, 7, 25);
    check.due("nothing was noted", x.count(9), 0);
    // No register is read by such a term, no other error is met in it.
    int[][] terms = {{4, 'g'}, {4, 'x'}, {9, 'x'}, {5, 'x', 0}, {6, 'x', 0, 1}, {7, 3, 0, 1, 0, 0}};
    for (int[] term : terms) {
      RestBoard y = Check.board(Check.field('g', 3, 0, 8, 0), Check.method('m', 0, at999, 23, term));
      check.due("fails", y.call(2, 0, 0, 0), -7);
      check.row("by its step", Check.error(y), 6, 0, 2, 25);
      check.due("no read", y.count(6), 0);
      check.due("no write", y.count(7), 0);
      check.due("no select", y.count(8), 0);
      check.due("a thousand steps", y.count(11), 1000);
    }
  }

  private static void namesOfOtherKinds() {
    check.says("ERRORS: 1 a NAME that LOOKED UP is none, or of a KIND that can't be there;");
    String names = "drmnpflx";
    String[] fine = {"nf", "m", "p", "r", "nf", "p", "l", "l"};
    for (int i = 0; i < names.length(); i++) {
      char name = names.charAt(i);
      int[][] codes = {{22, 4, name}, {22, 5, name, 0}, {22, 6, name, 0, 0}, {22, 9, name}, {17, name, 0, 1}, {18, name, 0, 0, 0, 1}, {24, name},
        {24, 'l', 25, name}};
      int[] places = {1, 1, 1, 1, 0, 0, 0, 2};
      for (int k = 0; k < codes.length; k++) {
        RestBoard x = Check.board(Check.device('d'), Check.resource('r', 0, 0), Check.method('m', 0), Check.number('n', 1), Check.pack('p', 1),
            Check.field('f', 0, 0, 1, 0), "Ll", Check.method('t', 0, codes[k]));
        String what = Arrays.toString(codes[k]);
        boolean fits = fine[k].indexOf(name) >= 0;
        check.due(what, x.call(8, 0, 0, 0) >= 0 ? 1 : 0, fits ? 1 : 0);
        if (!fits) {
          check.row(what, Check.error(x), 1, 0, 8, places[k]);
        }
      }
    }
  }

  private static void anotherNumberOfArgs() {
    check.says("2 another number of ARGS;");
    int[] terms = {0, 1, 0, 1, 0, 1};
    for (int has = 0; has <= 3; has++) {
      for (int m = 0; m <= 3; m++) {
        RestBoard x = Check.board(Check.method('a', has, 22, 0, 5), Check.method('m', 0, 22, 8, 5, 'a', m, Arrays.copyOf(terms, 2 * m)));
        check.due(m + " for " + has, x.call(2, 0, 0, 0), m == has ? 0 : -7);
        if (m != has) {
          check.row(m + " for " + has, Check.error(x), 2, 0, 2, 2);
        }
      }
    }
  }

  private static void valuesOfPackages() {
    check.says("3 a VALUE that the PACKAGE does not have;");
    check.says("6 NAME TERM (VALUE so many of a PACKAGE, from 0 on)");
    for (int size = 0; size <= 6; size++) {
      for (int which : new int[] {0, 1, 2, 3, 4, 5, 6, 7, 255, 256, 32768, 65535}) {
        int[] values = {10, 11, 12, 13, 14, 15};
        RestBoard x = Check.board(Check.pack('o', values), Check.pack('p', Arrays.copyOf(values, size)), Check.pack('q', values),
            Check.method('r', 1, 22, 6, 'p', 3, 0), Check.method('w', 1, 18, 'p', 3, 0, 1, 255, 255));
        check.due("value " + which + " of " + size, x.call(4, which, 0, 0), which < size ? 10 + which : -7);
        if (which >= size) {
          check.row("value " + which + " of " + size, Check.error(x), 3, 0, 4, 1);
        }
        check.due("into value " + which + " of " + size, x.call(5, which, 0, 0), which < size ? 0 : -7);
        if (which >= size) {
          check.row("into value " + which + " of " + size, Check.error(x), 3, 0, 5, 0);
        }
        for (int i = 0; i < 6; i++) {
          check.due("stored", x.node(2, 10 + i), i >= size ? -1 : i == which ? 65535 : 10 + i);
          check.due("the one ahead", x.node(1, 10 + i), 10 + i);
          check.due("the one behind", x.node(3, 10 + i), 10 + i);
        }
      }
    }
  }

  private static void byZero() {
    check.says("4 by 0;");
    for (int how = 0; how <= 9; how++) {
      for (int left : new int[] {0, 1, 65535}) {
        RestBoard x = Check.board(Check.method('m', 1, 22, 7, how, 3, 0, 0, 0));
        boolean fails = how == 3 || how == 4;
        check.due("7 " + how + " of " + left + " by 0", x.call(1, left, 0, 0), fails ? -7 : sum(how, left, 0));
        if (fails) {
          check.row("7 " + how + " by 0", Check.error(x), 4, 0, 1, 1);
        }
      }
      check.due("0 by 1", run(22, 7, how, 0, 0, 0, 1), sum(how, 0, 1));
      // A term that fails is not a 0 by which something is divided.
      RestBoard x = coded(22, 7, how, 0, 1, 4, 'x');
      check.due("its second fails", x.call(1, 0, 0, 0), -7);
      check.row("its second fails", Check.error(x), 1, 0, 1, 5);
      x = coded(22, 7, how, 4, 'x', 0, 0);
      check.due("its first fails", x.call(1, 0, 0, 0), -7);
      check.row("its first fails", Check.error(x), 1, 0, 1, 3);
    }
  }

  private static void aSeventhMethod() {
    check.says("5 a 7th METHOD in one another;");
    int[] all = {};
    for (int i = 0; i < 7; i++) {
      all = row(all, Check.method((char) ('a' + i), 0, 24, 'l', 23, 5, 'b' + i, 0, 25, 'l', 22, 0, 9));
    }
    RestBoard x = Check.board("Ll", all, Check.method('h', 0, 22, 0, 1));
    check.due("from the seventh name on: two", x.call(8, 0, 0, 0), 9);
    check.due("six", x.call(4, 0, 0, 0), 9);
    check.due("six: none forgotten", x.node(1, 24), 0);
    check.due("seven", x.call(3, 0, 0, 0), -7);
    check.row("seven", Check.error(x), 5, 0, 8, 3, 7, 3, 6, 3, 5, 3, 4, 3, 3, 3);
    check.due("six are told", x.error(2), 6);
    check.due("no seventh", x.error(22), -1);
    check.due("six locks are forgotten", x.node(1, 24), 6);
    check.due("eight", x.call(2, 0, 0, 0), -7);
    check.row("eight", Check.error(x), 5, 0, 7, 3, 6, 3, 5, 3, 4, 3, 3, 3, 2, 3);
    check.due("steps: those of six", x.count(11), 18);
    // What is run for an argument has ended when the method itself is run.
    int[] args = Check.method('a', 1, 22, 7, 0, 3, 0, 0, 1);
    int[] seven = {5, 'a', 1, 5, 'a', 1, 5, 'a', 1, 5, 'a', 1, 5, 'a', 1, 5, 'a', 1, 5, 'a', 1, 0, 0};
    check.due("seven behind one another", Check.board(args, Check.method('m', 0, 22, seven)).call(2, 0, 0, 0), 7);
  }

  private static void locksItCannotRelease() {
    check.says("7 a LOCK that this run can't release;");
    int[][] codes = {{25, 'l'}, {24, 'l', 25, 'l', 25, 'l'}, {24, 'o', 25, 'l'}, {24, 'l', 24, 'l', 25, 'l', 25, 'l', 25, 'l'}};
    int[] places = {0, 4, 2, 8};
    int[] forgotten = {0, 0, 1, 0};
    for (int i = 0; i < codes.length; i++) {
      RestBoard x = Check.board("Ll", "Lo", Check.method('m', 0, codes[i]));
      check.due(Arrays.toString(codes[i]), x.call(3, 0, 0, 0), -7);
      check.row(Arrays.toString(codes[i]), Check.error(x), 7, 0, 3, places[i]);
      check.due("none of it was held", x.node(1, 24), 0);
      check.due("the other one", x.node(2, 24), forgotten[i]);
      check.due("all but the last are fine", Check.board("Ll", "Lo", Check.method('m', 0, Arrays.copyOf(codes[i], codes[i].length - 2))).call(3, 0, 0, 0), 0);
    }
  }

  private static void reasons() {
    check.says("8 a 28 (its TERM is the REASON; of all others 0).");
    RestBoard x = Check.board(Check.method('m', 1, 28, 3, 0), Check.method('o', 0, 25, 'x'));
    for (int reason : new int[] {0, 1, 255, 256, 65535}) {
      check.due("fails", x.call(1, reason, 0, 0), -7);
      check.row("by " + reason, Check.error(x), 8, reason, 1, 0);
    }
    check.due("fails", x.call(2, 0, 0, 0), -7);
    check.row("another has 0", Check.error(x), 1, 0, 2, 0);
  }

  private static void whichErrorFirst() {
    check.says("a 7th METHOD in one another");
    // At the sixth method a name that is none, and another number of args, are met ahead of a seventh.
    for (int error : new int[] {1, 2, 5}) {
      int[] call = error == 1 ? row(23, 5, 'x', 0) : error == 2 ? row(23, 5, 'm', 0) : row(23, 5, 'm', 1, 0, 0);
      RestBoard x = Check.board(Check.method('m', 1, Check.block(19, row(3, 0), 22, 5, 'm', 1, 7, 1, 3, 0, 0, 1), call));
      check.due("six", x.call(1, 5, 0, 0), -7);
      check.due("which", x.error(0), error);
      check.due("so many", x.error(2), 6);
    }
  }

  private static void placesOfCallers() {
    check.says("(a 5, a 23 or whatever had called; the innermost TERM or else STATEMENT that is being run)");
    int[] call = {5, 'f', 0};
    Object[][] codes = {{16, 0, call}, {17, 'n', call}, {18, 'p', call, 0, 1}, {18, 'p', 0, 0, call}, {Check.block(19, call, 24, 'l')}, {Check.block(21, call, 24, 'l')},
      {22, call}, {23, call}, {26, call}, {28, call}, {22, 8, call}, {22, 6, 'p', call}, {22, 7, 0, call, 0, 1}, {22, 7, 0, 0, 1, call}, {22, 5, 'g', 1, call},
      {Check.block(19, row(0, 1), 22, call)}, {19, 0, 0, 0, Check.otherwise(22, call)}, {Check.block(21, row(0, 1), 22, call)}};
    int[] places = {2, 2, 2, 4, 1, 1, 1, 1, 1, 1, 2, 3, 3, 5, 4, 5, 7, 5};
    for (int i = 0; i < codes.length; i++) {
      RestBoard x = Check.board(Check.method('f', 0, 28, 0, 5), Check.method('g', 1), Check.number('n', 0), Check.pack('p', 0), "Ll", Check.method('m', 0, codes[i]));
      check.due("fails", x.call(6, 0, 0, 0), -7);
      check.row(Arrays.toString(row(codes[i])), Check.error(x), 8, 5, 1, 0, 6, places[i]);
    }
    // A loop's term that is reckoned anew calls from the same place.
    RestBoard x = Check.board(Check.number('n', 1), Check.method('f', 0, 22, 7, 3, 0, 9, 4, 'n'),
        Check.method('m', 0, 23, 0, 1, Check.block(21, row(5, 'f', 0), 17, 'n', 0, 0)));
    check.due("fails at the second turn", x.call(3, 0, 0, 0), -7);
    check.row("fails at the second turn", Check.error(x), 4, 0, 2, 1, 3, 4);
  }

  private static void placesWithin() {
    check.says("the place in its CODE of the first byte of the TERM, STATEMENT in which it was met");
    int[] bad = {4, 'x'};
    Object[][] codes = {{16, 0, bad}, {17, 'n', bad}, {18, 'p', bad, 0, 1}, {18, 'p', 0, 0, bad}, {Check.block(19, bad, 24, 'l')}, {Check.block(21, bad, 24, 'l')},
      {22, bad}, {23, bad}, {26, bad}, {28, bad}, {22, 8, bad}, {22, 6, 'p', bad}, {22, 7, 0, bad, 0, 1}, {22, 7, 0, 0, 1, bad}, {22, 5, 'g', 1, bad},
      {23, 0, 1, 23, bad}, {Check.block(19, row(0, 1), 22, bad), 22, bad}, {19, 0, 0, 0, Check.otherwise(23, 0, 1, 22, bad)}, {Check.block(21, row(0, 1), 22, bad)},
      {22, 8, 8, 8, 8, 8, 8, 8, bad}};
    int[] places = {2, 2, 2, 4, 1, 1, 1, 1, 1, 1, 2, 3, 3, 5, 4, 4, 5, 10, 5, 8};
    for (int i = 0; i < codes.length; i++) {
      RestBoard x = Check.board(Check.method('g', 1), Check.number('n', 0), Check.pack('p', 0), "Ll", Check.method('m', 0, codes[i]));
      check.due("fails", x.call(5, 0, 0, 0), -7);
      check.row(Arrays.toString(row(codes[i])), Check.error(x), 1, 0, 5, places[i]);
    }
    check.says("An ERROR ends all METHODS that run;");
    RestBoard x = Check.board(Check.number('n', 0), Check.method('f', 0, 28, 0, 5, 17, 'n', 0, 1), Check.method('m', 0, 23, 5, 'f', 0, 17, 'n', 0, 2));
    check.due("fails", x.call(3, 0, 0, 0), -7);
    check.due("nothing behind it is run", x.node(1, 8), 0);
  }

  private static void storedStays() {
    check.says("What was stored stays.");
    RestBoard x = Check.board(Check.number('n', 1), Check.pack('p', 1), Check.field('f', 2, 0, 8, 0), Check.method('a', 0, 17, 'n', 0, 5, 23, 5, 'b', 0),
        Check.method('b', 0, 18, 'p', 0, 0, 0, 6, 17, 'f', 0, 7, 26, 0, 8, 28, 0, 9));
    check.due("fails", x.call(4, 0, 0, 0), -7);
    check.due("number", x.node(1, 8), 5);
    check.due("package", x.node(2, 10), 6);
    check.due("field", x.node(3, 8), 7);
    check.due("select", x.count(8), 2);
    check.due("note", x.note(0, 1), 8);
    check.says("What is REFUSED changes nothing but what is told of it (by -5, -7, by -4 of rest(): what METHODS stored, REGISTERS, NOTES, SWITCHES stay as they came).");
    check.due("writes", x.count(7), 2);
    check.due("it can be undone", x.undo(), 1);
    check.due("number", x.node(1, 8), 1);
    check.due("package", x.node(2, 10), 1);
    check.due("field", x.node(3, 8), 0);
    check.due("note", x.count(9), 0);
  }

  /** A bank of 64 bits, held here as well. */
  private static final int[] PATTERN = {0xa5, 0x3c, 0xff, 0x00, 0x96, 0x69, 0xc3, 0x5a};

  private static int valueIn(int[] bank, int offset, int width) {
    int value = 0;
    for (int i = 0; i < width; i++) {
      value |= (bank[(offset + i) / 8] >> (offset + i) % 8 & 1) << i;
    }
    return value;
  }

  private static int[] written(int[] bank, int offset, int width, int rule, int value) {
    int[] after = bank.clone();
    for (int bit = offset / 8 * 8; bit < ((offset + width - 1) / 8 + 1) * 8; bit++) {
      boolean own = bit >= offset && bit < offset + width;
      int old = bank[bit / 8] >> bit % 8 & 1;
      int now = own ? value >> bit - offset & 1 : rule == 0 ? old : rule == 1 ? 1 : 0;
      after[bit / 8] = after[bit / 8] & ~(1 << bit % 8) | now << bit % 8;
    }
    return after;
  }

  private static int partlyHad(int offset, int width) {
    int bytes = 0;
    for (int at = offset / 8; at <= (offset + width - 1) / 8; at++) {
      boolean whole = offset <= at * 8 && offset + width >= at * 8 + 8;
      bytes += whole ? 0 : 1;
    }
    return bytes;
  }

  private static void fields() {
    check.says("A FIELD's bits: from bit OFFSET on (bit i: of byte i / 8 that worth 2 to the (i modulo 8)), the first is worth 1.");
    check.says("has it not all 8 bits of it, by RULE 0 the byte is READ first and its other bits stay; by RULE 1 they become 1, by RULE 2 0; it is written (a WRITE).");
    int[] bytes = {};
    for (int i = 0; i < 8; i++) {
      bytes = row(bytes, Check.field((char) ('a' + i), 1, 8 * i, 8, 0));
    }
    for (int offset = 0; offset < 64; offset++) {
      for (int width = 1; width <= Math.min(16, 64 - offset); width++) {
        for (int rule = 0; rule <= 2; rule++) {
          RestBoard x = Check.board(bytes, Check.field('x', 1, offset, width, rule), Check.method('r', 0, 22, 4, 'x'));
          for (int i = 0; i < 8; i++) {
            x.store(1 + i, PATTERN[i]);
          }
          oneField(x, offset, width, rule);
        }
      }
    }
  }

  private static void oneField(RestBoard x, int offset, int width, int rule) {
    String what = "offset " + offset + ", width " + width + ", rule " + rule;
    int all = (offset + width - 1) / 8 - offset / 8 + 1;
    int reads = x.count(6);
    int writes = x.count(7);
    check.due(what + ": whole bytes are not read", reads, 0);
    check.due(what + ": value", x.node(9, 8), valueIn(PATTERN, offset, width));
    check.due(what + ": read", x.call(10, 0, 0, 0), valueIn(PATTERN, offset, width));
    check.due(what + ": reads of reading", x.count(6) - reads, all);
    check.due(what + ": writes of reading", x.count(7) - writes, 1);
    reads = x.count(6);
    writes = x.count(7);
    check.due(what + ": what it was", x.store(9, 0x9c35), valueIn(PATTERN, offset, width));
    int[] due = written(PATTERN, offset, width, rule, 0x9c35);
    for (int i = 0; i < 8; i++) {
      check.due(what + ": byte " + i, x.register(1, i), due[i]);
      check.due(what + ": another bank's byte " + i, x.register(2, i) + x.register(0, i) + x.register(3, i) + x.register(4, i), 0);
    }
    check.due(what + ": cut", x.node(9, 8), 0x9c35 & (1 << width) - 1);
    check.due(what + ": reads of writing", x.count(6) - reads, rule == 0 ? partlyHad(offset, width) : 0);
    check.due(what + ": writes of writing", x.count(7) - writes, 1 + all);
  }

  private static void selecting() {
    check.says("SELECT 0 .. 3 (0 at first), 4 BANKS of 8 bytes and one WINDOW of 8 (BANK 4), all 0.");
    RestBoard x = new RestBoard();
    check.due("0 at first", x.count(8), 0);
    for (int bank = 0; bank <= 4; bank++) {
      for (int i = 0; i < 8; i++) {
        check.due("0 at first", x.register(bank, i), 0);
      }
    }
    check.says("if BANK is not 4, SELECT becomes it (a WRITE);");
    for (int bank = 0; bank <= 4; bank++) {
      RestBoard y = Check.board(Check.field('f', bank, 0, 16, 0), Check.field('g', 2, 0, 8, 0), Check.method('r', 0, 22, 4, 'f'), Check.method('w', 0, 17, 'f', 1, 255, 255));
      y.store(2, 0);
      int writes = y.count(7);
      y.call(3, 0, 0, 0);
      check.due("reading bank " + bank, y.count(8), bank == 4 ? 2 : bank);
      check.due("reading bank " + bank + ": writes", y.count(7) - writes, bank == 4 ? 0 : 1);
      y.store(2, 0);
      writes = y.count(7);
      y.call(4, 0, 0, 0);
      check.due("writing bank " + bank, y.count(8), bank == 4 ? 2 : bank);
      check.due("writing bank " + bank + ": writes", y.count(7) - writes, bank == 4 ? 2 : 3);
      check.due("byte 0 of bank " + bank, y.register(bank, 0), 255);
      check.due("byte 1 of bank " + bank, y.register(bank, 1), 255);
      for (int other = 0; other <= 4; other++) {
        check.due("no other byte", y.register(other, 2) + (other == bank ? 0 : y.register(other, 0)), 0);
      }
    }
    check.says("Byte i of a BANK (4: the WINDOW), without a READ. NONE.");
    for (int[] none : new int[][] {{-1, 0}, {5, 0}, {0, -1}, {0, 8}, {4, 8}, {4, -1}, {Integer.MAX_VALUE, 0}, {Integer.MIN_VALUE, 0}, {0, Integer.MAX_VALUE}, {0, Integer.MIN_VALUE}}) {
      check.asked("none", x, -1, () -> x.register(none[0], none[1]));
    }
    check.asked("the last one", x, 0, () -> x.register(4, 7));
  }

  private static void fieldsOfMethods() {
    check.says("each byte in which it has bits is READ.");
    int[][] due = {{0, 1, 1}, {0, 8, 1}, {0, 9, 2}, {7, 1, 1}, {7, 2, 2}, {7, 9, 2}, {7, 10, 3}, {1, 16, 3}, {48, 16, 2}, {63, 1, 1}, {55, 9, 2}, {54, 10, 2}};
    for (int[] row : due) {
      for (int rule = 0; rule <= 2; rule++) {
        RestBoard x = Check.board(Check.field('f', 4, row[0], row[1], rule), Check.method('r', 0, 23, 4, 'f'), Check.method('w', 1, 17, 'f', 3, 0));
        x.call(2, 0, 0, 0);
        check.due("reads of " + Arrays.toString(row), x.count(6), row[2]);
        check.due("writes", x.count(7), 0);
        check.due("reads on paper", x.tries(2, 0, 0, 0, 3), row[2]);
        check.due("writes on paper", x.tries(3, 65535, 0, 0, 4), row[2]);
        check.due("reads on paper", x.tries(3, 65535, 0, 0, 3), rule == 0 ? partlyHad(row[0], row[1]) : 0);
        x.call(3, 65535, 0, 0);
        check.due("writes", x.count(7), row[2]);
        check.due("value", x.node(1, 8), (1 << row[1]) - 1);
      }
    }
  }

  private static void cutToWidth() {
    check.says("17 NAME TERM (into a NUMBER, a FIELD, there cut to WIDTH)");
    for (int width = 1; width <= 16; width++) {
      RestBoard x = Check.board(Check.field('f', 0, 3, width, 0), Check.number('n', 0), Check.method('m', 1, 17, 'f', 3, 0, 17, 'n', 3, 0));
      for (int value : new int[] {0, (1 << width) - 1, 1 << width & 65535, 65535, 0x5555, 0xaaaa}) {
        x.call(3, value, 0, 0);
        check.due("width " + width + ", " + value, x.node(1, 8), value & (1 << width) - 1);
        check.due("a number is not cut", x.node(2, 8), value);
        x.store(1, 0);
        x.store(1, value);
        check.due("by hand", x.node(1, 8), value & (1 << width) - 1);
      }
    }
  }

  private static void storing() {
    check.says("A VALUE is stored into a NUMBER, a FIELD (cut to WIDTH) by hand: what it was (a FIELD is not READ for that).");
    RestBoard x = Check.board(Check.number('n', 7), Check.field('f', 3, 4, 8, 1), Check.number('o', 8));
    check.due("0", x.store(1, 0), 7);
    check.due("65,535", x.store(1, 65535), 0);
    check.due("what it is", x.node(1, 8), 65535);
    check.due("the other one", x.node(3, 8), 8);
    check.due("a field", x.store(2, 65535), 0);
    check.due("a field", x.store(2, 0), 255);
    check.due("no reads", x.count(6), 0);
    check.due("writes", x.count(7), 6);
    check.due("no steps", x.count(11), 0);
    check.due("status", x.status(), 0);
    check.due("told as undone", x.undo(), 2);
    check.due("undone", x.node(2, 8), 255);
    check.due("writes", x.count(7), 3);
  }

  private static void storesRefused() {
    check.says("(a FIELD is not READ for that). -1; -2; -3.");
    RestBoard x = Check.board(Check.number('i', 0), Check.device('d'), Check.resource('r', 0, 0), Check.method('m', 0), Check.pack('p', 1), Check.field('f', 0, 0, 8, 0), "Ll");
    for (int value : new int[] {-1, 65536, Integer.MAX_VALUE, Integer.MIN_VALUE}) {
      check.refused("value " + value, x, -1, () -> x.store(1, value));
      check.refused("value " + value + " into a field", x, -1, () -> x.store(6, value));
      check.refused("-1 ahead of -2", x, -1, () -> x.store(2, value));
      check.refused("-1 ahead of -2", x, -1, () -> x.store(99, value));
    }
    for (int node : new int[] {-1, 0, 2, 3, 4, 5, 7, 8, 31, 32, Integer.MAX_VALUE, Integer.MIN_VALUE}) {
      check.refused("node " + node, x, -2, () -> x.store(node, 1));
    }
    x.rest(1);
    check.refused("at rest", x, -3, () -> x.store(1, 1));
    check.refused("at rest, a field", x, -3, () -> x.store(6, 1));
    check.refused("-1 ahead of -3", x, -1, () -> x.store(1, -1));
    check.refused("-2 ahead of -3", x, -2, () -> x.store(3, 1));
  }

  private static void calling() {
    check.says("A METHOD is run, ARGS are a, b, c, as many as it has: what it RETURNS.");
    RestBoard x = Check.board(Check.method('m', 3, 22, 7, 0, 3, 0, 7, 0, 3, 1, 3, 2));
    check.due("0", x.call(1, 0, 0, 0), 0);
    check.due("65,535", x.call(1, 65535, 0, 0), 65535);
    check.due("65,535", x.call(1, 0, 65535, 0), 65535);
    check.due("65,535", x.call(1, 0, 0, 65535), 65535);
    check.due("modulo", x.call(1, 65535, 65535, 3), 1);
    check.due("status", x.status(), 0);
    check.due("told as undone", x.undo(), 1);
  }

  private static void callsRefused() {
    check.says("-1 (one of a, b, c is not 0 .. 65,535); -2; -3; -7.");
    RestBoard x = Check.board(Check.number('i', 0), Check.device('d'), Check.resource('r', 0, 0), Check.method('m', 0, 26, 0, 1), Check.pack('p', 1),
        Check.field('f', 0, 0, 8, 0), "Ll", Check.method('n', 3, 28, 0, 1));
    x.call(4, 0, 0, 0);
    for (int value : new int[] {-1, 65536, Integer.MAX_VALUE, Integer.MIN_VALUE}) {
      check.refused("a " + value, x, -1, () -> x.call(8, value, 0, 0));
      check.refused("b " + value, x, -1, () -> x.call(8, 0, value, 0));
      check.refused("c " + value, x, -1, () -> x.call(8, 0, 0, value));
      check.refused("a of none " + value, x, -1, () -> x.call(4, value, 0, 0));
      check.refused("b of none " + value, x, -1, () -> x.call(4, 0, value, 0));
      check.refused("c of none " + value, x, -1, () -> x.call(4, 0, 0, value));
      check.refused("-1 ahead of -2", x, -1, () -> x.call(3, 0, value, 0));
    }
    for (int node : new int[] {-1, 0, 1, 2, 3, 5, 6, 7, 9, 31, 32, Integer.MAX_VALUE, Integer.MIN_VALUE}) {
      check.refused("node " + node, x, -2, () -> x.call(node, 65535, 65535, 65535));
    }
    check.due("fails", x.call(8, 0, 0, 0), -7);
    check.due("status", x.status(), -7);
    check.due("-7s", x.count(20), 1);
    x.rest(1);
    check.refused("at rest", x, -3, () -> x.call(4, 0, 0, 0));
    check.refused("-3 ahead of -7", x, -3, () -> x.call(8, 0, 0, 0));
    check.refused("-1 ahead of -3", x, -1, () -> x.call(4, 0, 0, -1));
    check.refused("-2 ahead of -3", x, -2, () -> x.call(1, 0, 0, 0));
  }

  private static void trying() {
    check.says("On paper: what call() would tell (what 0), how many STEPS it would take (1), how many LOCKS would be FORGOTTEN by it (2), READS (3), WRITES (4)");
    RestBoard x = Check.board(Check.number('n', 5), "Ll", Check.field('f', 2, 4, 8, 0), Check.pack('p', 1),
        Check.method('m', 1, 24, 'l', 17, 'f', 3, 0, 26, 4, 'f', 17, 'n', 0, 9, 18, 'p', 0, 0, 0, 7, 22, 3, 0));
    // Some reads, writes and forgotten ones lie behind it already.
    x.call(5, 200, 0, 0);
    x.call(5, 100, 0, 0);
    int[] due = {65535, 12, 1, 4, 4};
    for (int what = 0; what <= 4; what++) {
      int which = what;
      check.asked("what " + what, x, due[what], () -> x.tries(5, 65535, 0, 0, which));
    }
    check.says("NONE for others.");
    for (int what : new int[] {-1, 5, 6, 10, Integer.MAX_VALUE, Integer.MIN_VALUE}) {
      check.asked("what " + what, x, -1, () -> x.tries(5, 0, 0, 0, what));
      check.asked("what " + what + " of no method", x, -1, () -> x.tries(1, 0, 0, 0, what));
      check.asked("what " + what + " of a wrong value", x, -1, () -> x.tries(5, -1, 0, 0, what));
    }
  }

  private static void triesRefused() {
    check.says("(1 to 4: as far as it came, if it failed; 0, if it were REFUSED by -1, -2, -3)");
    RestBoard x = Check.board(Check.number('i', 0), Check.method('m', 1, 26, 3, 0, 22, 0, 9));
    x.call(2, 1, 0, 0);
    for (int what = 0; what <= 4; what++) {
      int which = what;
      check.asked("-1", x, what == 0 ? -1 : 0, () -> x.tries(2, 65536, 0, 0, which));
      check.asked("-1", x, what == 0 ? -1 : 0, () -> x.tries(2, 0, -1, 0, which));
      check.asked("-1 ahead of -2", x, what == 0 ? -1 : 0, () -> x.tries(1, 0, 0, 65536, which));
      check.asked("-2", x, what == 0 ? -2 : 0, () -> x.tries(1, 0, 0, 0, which));
      check.asked("-2", x, what == 0 ? -2 : 0, () -> x.tries(3, 0, 0, 0, which));
      check.asked("-2", x, what == 0 ? -2 : 0, () -> x.tries(-1, 0, 0, 0, which));
    }
    x.rest(1);
    for (int what = 0; what <= 4; what++) {
      int which = what;
      check.asked("-3", x, what == 0 ? -3 : 0, () -> x.tries(2, 0, 0, 0, which));
      check.asked("-2 ahead of -3", x, what == 0 ? -2 : 0, () -> x.tries(0, 0, 0, 0, which));
      check.asked("-1 ahead of -3", x, what == 0 ? -1 : 0, () -> x.tries(2, -1, 0, 0, which));
    }
  }

  private static void triesThatFail() {
    check.says("(1 to 4: as far as it came, if it failed; 0, if it were REFUSED by -1, -2, -3)");
    RestBoard x = Check.board("Ll", Check.field('f', 1, 0, 4, 0), Check.method('m', 0, 24, 'l', 17, 'f', 0, 3, 23, 4, 'f', 25, 'x', 17, 'f', 0, 4, 24, 'l'));
    int[] due = {-7, 6, 1, 2, 3};
    for (int what = 0; what <= 4; what++) {
      int which = what;
      check.asked("what " + what, x, due[what], () -> x.tries(3, 0, 0, 0, which));
    }
    check.due("nothing is told of its error", x.error(0), 0);
    check.due("call", x.call(3, 0, 0, 0), -7);
    for (int what = 0; what <= 4; what++) {
      int which = what;
      check.asked("behind the call, what " + what, x, due[what], () -> x.tries(3, 0, 0, 0, which));
    }
  }

  private static void errorsTold() {
    check.says("Of the latest ERROR: its number (what 0; 0 ahead of any), REASON (1), how many METHODS are in its TRACE (2), of the i-th of these (from the innermost, 0) the NODE (10 + 2 i), the place (11 + 2 i). NONE for others.");
    RestBoard x = Check.board(Check.method('a', 1, Check.block(19, row(3, 0), 23, 5, 'a', 1, 7, 1, 3, 0, 0, 1), 28, 0, 77));
    int[] others = {-1, 3, 4, 5, 6, 7, 8, 9, 10, 11, 22, 23, Integer.MAX_VALUE, Integer.MIN_VALUE};
    for (int what = 0; what <= 2; what++) {
      check.due("ahead of any, " + what, x.error(what), 0);
    }
    for (int what : others) {
      check.due("ahead of any, " + what, x.error(what), -1);
    }
    for (int deep = 0; deep <= 5; deep++) {
      x.call(1, deep, 0, 0);
      check.due("number", x.error(0), 8);
      check.due("reason", x.error(1), 77);
      check.due("so many", x.error(2), deep + 1);
      for (int what = 3; what <= 9; what++) {
        check.due("others, " + what, x.error(what), -1);
      }
      for (int i = 0; i <= 6; i++) {
        check.due("node " + i, x.error(10 + 2 * i), i <= deep ? 1 : -1);
        check.due("place " + i, x.error(11 + 2 * i), i > deep ? -1 : i == 0 ? 14 : 5);
      }
      check.due("others", x.error(-1), -1);
      check.due("others", x.error(Integer.MAX_VALUE), -1);
      check.due("others", x.error(Integer.MIN_VALUE), -1);
    }
    x.undo();
    check.due("undo leaves it", x.error(2), 6);
    x.call(1, 1, 0, 0);
    check.due("the latest", x.error(2), 2);
    check.due("what a longer one had is gone", x.error(14), -1);
  }
}
