/** Promises 11 to 13 and 21 to 24: what rest is allowed, how it is entered, taken back and left. */
public final class RestTest {
  private static final Check check = new Check("RestTest");

  public static void main(String[] args) {
    rootAlone();
    reasons();
    order();
    choices();
    noPower();
    staysOn();
    staysOnBehindTheLast();
    undoneRests();
    stepsOfNone();
    methodFails();
    takenBack();
    least();
    lines();
    wakes();
    wakesWithErrors();
    whatItWantedThen();
    onPaper();
    check.finish();
  }

  private static void rootAlone() {
    RestBoard x = new RestBoard();
    check.due("rest 0", x.rest(0), -1);
    check.due("rest 5", x.rest(5), -1);
    check.due("not there", x.rest(1), -4);
    check.due("not there", x.why(1), 1);
    check.due("nothing to undo", x.count(12), 0);
    Check.load(x, 0, Check.number('k', 9), Check.number('i', 0), Check.pack('j', 1), Check.device('d', Check.number('l', 0)));
    check.due("1", x.why(1), 0);
    check.due("2 is a package", x.why(2), 1);
    check.due("3", x.why(3), 0);
    check.due("4 is another's", x.why(4), 1);
    check.due("0", x.why(0), -1);
    check.due("5", x.why(5), -1);
    check.due("deepest", x.deepest(), 3);
    check.due("rest", x.rest(3), 0);
    check.due("which", x.count(2), 3);
    check.due("-1 ahead of -3", x.rest(9), -1);
    check.due("at rest", x.rest(1), -3);
    check.due("at rest, not there", x.rest(2), -3);
    check.due("no one is tied", x.raise(7), 0);
    check.due("it rests", x.count(2), 3);
    check.due("no note", x.count(9), 0);
    check.due("deepest at rest", x.deepest(), 3);
  }

  private static void reasons() {
    RestBoard x = Check.board(Check.number('i', 0), Check.number('j', 0), Check.number('k', 0), Check.resource('a', 1, 0),
        Check.resource('b', 2, 0), Check.device('d', Check.pack('w', 3, 2, 'b', 'a')), Check.device('e', Check.pack('w', 5, 1)),
        Check.device('f', Check.pack('p', 'a')));
    x.arm(6);
    check.due("1", x.why(1), 0);
    check.due("2: a level", x.why(2), 3);
    check.due("3: a depth", x.why(3), 2);
    check.due("4: not there", x.why(4), 1);
    check.due("deepest", x.deepest(), 1);
    x.raise(5);
    check.due("not its line", x.why(1), 0);
    x.raise(3);
    check.due("its line", x.why(1), 4);
    check.due("a level first", x.why(2), 3);
    check.due("a depth first", x.why(3), 2);
    check.due("not there first", x.why(4), 1);
    check.due("deepest", x.deepest(), 0);
    check.due("not allowed", x.rest(1), -4);
    check.due("would", x.would(1), -4);
    x.clear(3);
    check.due("cleared", x.why(1), 0);
    x.arm(8);
    check.due("a depth of the other one first", x.why(2), 2);
    check.due("the other one's line", x.why(1), 4);
    x.disarm(6);
    x.clear(5);
    check.due("what is not armed does not count", x.why(1), 0);
    x.power(10, 0);
    check.due("what is on does not count", x.why(1), 0);
  }

  private static void order() {
    RestBoard x = Check.board(Check.device('a', Check.device('b'), Check.device('c', Check.device('d'))), Check.lock('l'),
        Check.device('e', Check.device('f', Check.device('g', Check.device('h')))), Check.device('m'));
    int[] due = {9, 8, 4, 7, 3, 2, 10, 6, 1};
    for (int i = 0; i < due.length; i++) {
      check.due("order " + i, x.order(i), due[i]);
    }
    check.due("no more", x.order(due.length), -1);
    check.due("none", x.order(-1), -1);
  }

  /** A device that can have all powers, with a method that tells the rest. */
  private static int[] able(char name, Object... more) {
    return Check.device(name, Check.pack('p'), Check.pack('q'), Check.pack('r'), Check.method('z', 1, 26, 3, 0), Check.pack('w', 1, 4),
        Check.bytes(more));
  }

  private static void choices() {
    RestBoard x = Check.board(Check.number('i', 0), Check.number('j', 1), Check.number('k', 2), Check.number('l', 65535), able('d', able('e')));
    int outer = 5;
    int inner = 11;
    x.power(outer, 0);
    x.power(inner, 0);
    check.due("not armed: off", x.rest(1), 2);
    check.due("outer", x.node(outer, 30), 3);
    check.due("inner", x.node(inner, 30), 3);
    check.row("each one's method, the inner first", Check.notes(x), outer, 1, inner, 1);
    x.undo();
    x.arm(inner);
    check.due("armed: least 0", x.rest(1), 0);
    check.due("armed: stays", x.node(inner, 30), 0);
    check.due("not above what is below", x.node(outer, 30), 0);
    x.undo();
    check.due("armed: least 1", x.rest(2), 2);
    check.due("inner", x.node(inner, 30), 1);
    check.due("outer", x.node(outer, 30), 1);
    x.undo();
    check.due("armed: least 2", x.rest(3), 2);
    check.due("inner", x.node(inner, 30), 2);
    x.undo();
    check.due("armed: least 3", x.rest(4), 2);
    check.due("inner", x.node(inner, 30), 3);
    x.undo();
    x.power(inner, 2);
    check.due("not below its power", x.rest(2), 1);
    check.due("inner", x.node(inner, 30), 2);
    check.due("outer", x.node(outer, 30), 2);
    x.undo();
    x.disarm(inner);
    x.arm(outer);
    check.due("outer armed", x.rest(2), 2);
    check.due("inner", x.node(inner, 30), 3);
    check.due("outer", x.node(outer, 30), 1);
  }

  private static void noPower() {
    // The inner one stays at 0 by rest 1; the outer one must have 1.
    RestBoard x = Check.board(Check.number('i', 1), Check.number('n', 0),
        Check.device('d', Check.pack('w', 1, 4), Check.method('z', 1, 17, 'n', 3, 0), Check.device('e', Check.pack('w', 1, 4), Check.pack('q'))));
    x.power(3, 0);
    x.power(6, 0);
    x.arm(3);
    x.arm(6);
    check.due("would", x.would(1), -4);
    check.due("none", x.rest(1), -4);
    check.due("its method was run", x.node(2, 8), 1);
    check.due("taken back", x.node(6, 30), 0);
    check.due("awake", x.count(2), 0);
    check.due("its steps", x.count(11), 2);
    check.due("status", x.status(), -4);
    check.due("it can be undone", x.undo(), 6);
    check.due("what was stored", x.node(2, 8), 0);
    check.due("steps stay", x.count(11), 2);
    x.disarm(3);
    check.due("not armed it has no 1, 0 is what it has", x.rest(1), 1);
    x.undo();
    // What it has is no more what it can have.
    x = Check.board(Check.number('i', 0), Check.resource('a', 4, 0), Check.device('d', Check.pack('p', 'a'), Check.pack('w', 1, 4),
        Check.device('e', Check.pack('p', 'a'), Check.pack('w', 2, 4)), Check.method('m', 1, 18, 'p', 0, 0, 3, 0)));
    x.power(3, 0);
    x.power(6, 0);
    x.arm(6);
    x.call(9, 7, 0, 0);
    check.due("none", x.rest(1), -4);
    x.call(9, 'a', 0, 0);
    check.due("the one that it has", x.rest(1), 0);
  }

  private static void staysOn() {
    RestBoard x = Check.board(Check.number('i', 0), Check.number('j', 0), Check.resource('a', 1, 0), Check.resource('b', 4, 0),
        Check.device('d', Check.pack('p', 'a'), Check.pack('w', 1, 4, 'b'), Check.method('z', 1, 26, 3, 0)),
        Check.device('e', Check.pack('p', 'b')));
    x.power(5, 0);
    x.power(9, 0);
    x.arm(5);
    check.due("deepest", x.deepest(), 2);
    check.due("level 1 for rest 2", x.rest(2), -5);
    check.due("status", x.status(), -5);
    check.due("-5s", x.count(18), 1);
    check.due("awake", x.count(2), 0);
    check.due("powered back", x.node(9, 30), 0);
    check.due("counted back", x.node(4, 5), 2);
    check.due("no switches, as it is armed", x.count(10), 2);
    check.due("its note stays", x.note(0, 1), 2);
    check.due("steps", x.count(11), 2);
    check.due("undone", x.undo(), 6);
    check.due("no note", x.count(9), 0);
    check.due("level 1 for rest 1", x.rest(1), 1);
    check.due("device off", x.node(9, 30), 3);
    check.due("a is on", x.node(3, 5), 1);
    check.due("b is on", x.node(4, 5), 1);
  }

  private static void staysOnBehindTheLast() {
    // The last one that is powered is powered back, too.
    RestBoard x = Check.board(Check.number('j', 0), Check.resource('a', 1, 0), Check.resource('b', 4, 0), Check.device('d', Check.pack('p', 'b')),
        Check.device('e', Check.pack('p', 'a'), Check.pack('w', 1, 4)));
    x.power(4, 0);
    x.power(6, 0);
    x.arm(6);
    check.due("stays on", x.rest(2), -5);
    check.due("power", x.node(4, 30), 0);
    check.due("count", x.node(3, 5), 1);
    check.row("switches", Check.switches(x), 3, 1, 3, 0, 2, 1, 3, 1);
    check.due("no steps", x.count(11), 0);
  }

  private static void undoneRests() {
    // A rest that is come back to by undoing knows the powers ahead of it, not those ahead of a later one.
    RestBoard x = Check.board(Check.number('i', 3), Check.resource('a', 4, 0), Check.resource('b', 4, 0),
        Check.device('d', Check.pack('p', 'a'), Check.pack('q', 'b'), Check.pack('w', 1, 4)));
    x.power(4, 0);
    x.arm(4);
    x.rest(1);
    x.raise(1);
    x.clear(1);
    x.power(4, 1);
    x.rest(1);
    for (int i = 0; i < 4; i++) {
      x.undo();
    }
    check.due("it rests", x.count(2), 1);
    check.due("raise", x.raise(1), 1);
    check.due("power", x.node(4, 30), 0);
    check.due("wants", x.wants(4), 1 << 2);
    check.due("a", x.node(2, 5), 1);
    check.due("b", x.node(3, 5), 0);
  }

  private static void stepsOfNone() {
    RestBoard x = Check.board(Check.number('i', 0), Check.method('m', 0, 22, 0, 1), Check.device('d', Check.pack('w', 1, 1)));
    x.call(2, 0, 0, 0);
    check.due("call", x.count(11), 2);
    x.arm(3);
    check.due("arm", x.count(11), 2);
    check.due("not there", x.rest(2), -4);
    check.due("refused", x.count(11), 2);
    x.rest(1);
    check.due("rest", x.count(11), 0);
    x.undo();
    x.call(2, 0, 0, 0);
    check.due("refused", x.raise(9), -1);
    check.due("refused", x.count(11), 2);
    x.raise(2);
    check.due("raise", x.count(11), 0);
  }

  private static void methodFails() {
    RestBoard x = Check.board(Check.number('i', 0), Check.resource('a', 4, 0),
        Check.device('d', Check.pack('p', 'a'), Check.method('z', 1, 26, 0, 5, 28, 3, 0)),
        Check.device('e', Check.pack('p', 'a'), Check.method('z', 1, 26, 0, 6)), Check.device('f', Check.method('z', 0, 28, 0, 1)));
    x.power(3, 0);
    x.power(6, 0);
    check.due("would", x.would(1), -7);
    check.due("nothing told", x.error(0), 0);
    check.due("fails", x.rest(1), -7);
    check.row("error", Check.error(x), 8, 1, 5, 3);
    check.row("notes", Check.notes(x), 3, 5, 6, 6);
    check.due("powered back", x.node(6, 30), 0);
    check.due("counted back", x.node(2, 5), 2);
    check.due("status", x.status(), -7);
    check.due("steps of the last method", x.count(11), 4);
    check.due("to undo", x.count(12), 4);
  }

  private static void takenBack() {
    // The deepest ones are off already when the last one fails; they come back the last one first.
    RestBoard x = Check.board(Check.number('i', 0), Check.resource('a', 4, 2), Check.resource('b', 4, 1), Check.resource('c', 4, 0),
        Check.device('d', Check.pack('p', 'a'), Check.device('e', Check.pack('p', 'b', 'a')), Check.device('f', Check.pack('p', 'c'))),
        Check.device('g', Check.method('z', 1, 22, 0, 1)), Check.device('h', Check.pack('p', 'c', 'b')));
    x.power(5, 0);
    x.power(7, 0);
    x.power(9, 0);
    x.power(13, 0);
    Check.load(x, 5, Check.method('z', 1, 28, 0, 3));
    int before = x.count(10);
    check.due("fails", x.rest(1), -7);
    check.row("switches", java.util.Arrays.copyOf(Check.switches(x), 2 * (x.count(10) - before)), 3, 1, 4, 1, 4, 0, 3, 0);
    check.due("a", x.node(2, 5), 2);
    check.due("b", x.node(3, 5), 2);
    check.due("c", x.node(4, 5), 2);
    check.due("e", x.node(7, 30), 0);
    check.due("wants", x.wants(7), 1 << 2 | 1 << 3);
  }

  private static void least() {
    // A value above 3 is 3; one that a method stores on the way is what counts.
    RestBoard x = Check.board(Check.number('i', 0), Check.device('d', Check.pack('q'), Check.pack('r'), Check.pack('w', 0, 1),
        Check.method('z', 1, 17, 'i', 0, 2)));
    x.power(2, 0);
    x.arm(2);
    check.due("rest", x.rest(1), 1);
    check.due("by what stands", x.node(2, 30), 2);
    x.undo();
    check.due("stored", x.node(1, 8), 0);
    x.store(1, 300);
    x = Check.board(Check.number('i', 300), Check.device('d', Check.pack('q'), Check.pack('w', 0, 1)));
    x.power(2, 0);
    x.arm(2);
    check.due("rest", x.rest(1), 1);
    check.due("300 is 3", x.node(2, 30), 3);
  }

  private static void lines() {
    RestBoard x = Check.board(Check.device('d', Check.pack('w', 7, 1)), Check.device('e', Check.pack('w', 7, 1)), Check.device('f', Check.pack('w', 0, 1)));
    check.due("raise 8", x.raise(8), -1);
    check.due("raise -1", x.raise(-1), -1);
    check.due("clear 8", x.clear(8), -1);
    check.due("clear -1", x.clear(-1), -1);
    check.due("clear what is not raised", x.clear(0), -4);
    check.due("none is armed", x.raise(0), 0);
    check.due("it is raised", x.raise(0), -4);
    check.due("lines", x.count(5), 1);
    check.due("none noted", x.count(9), 0);
    x.arm(3);
    x.arm(1);
    x.arm(5);
    check.due("two", x.raise(7), 2);
    check.row("notes by rising nodes", Check.notes(x), 3, 1007, 1, 1007);
    check.due("lines", x.count(5), 129);
    check.due("clear", x.clear(0), 0);
    check.due("lines", x.count(5), 128);
    check.due("clear again", x.clear(0), -4);
    check.due("raise again", x.raise(0), 1);
    check.due("steps", x.count(11), 0);
    check.due("to undo", x.count(12), 7 + 1);
  }

  private static void wakes() {
    RestBoard x = Check.board(Check.number('j', 0), Check.resource('a', 4, 0), Check.resource('b', 4, 1),
        Check.device('d', Check.pack('p', 'a'), Check.method('y', 1, 26, 3, 0),
            Check.device('e', Check.pack('p', 'b'), Check.pack('w', 4, 3), Check.method('y', 1, 26, 9, 'a'), Check.pack('q'))),
        Check.device('f', Check.method('y', 1, 26, 0, 77), Check.pack('w', 5, 2)), Check.device('g', Check.method('y', 2, 28, 0, 1)));
    x.power(4, 0);
    x.power(7, 0);
    x.arm(12);
    check.due("rest", x.rest(2), 2);
    check.due("all off", x.count(3), 0);
    check.due("another line", x.raise(4), 0);
    check.due("no one wakes", x.count(2), 2);
    check.due("its line", x.raise(5), 1);
    check.due("awake", x.count(2), 0);
    check.due("outer", x.node(4, 30), 0);
    check.due("inner", x.node(7, 30), 0);
    // f and d are as far from the root; f has the greater node, so it comes later when waking; the inner one last.
    check.row("notes", Check.notes(x), 12, 1005, 7, 1, 12, 77, 4, 2);
    check.row("switches", java.util.Arrays.copyOf(Check.switches(x), 4), 3, 1, 2, 1);
    check.due("steps of the last method", x.count(11), 2);
    check.due("told", x.undo(), 7);
    check.due("it rests", x.count(2), 2);
    check.due("off", x.node(7, 30), 3);
    check.due("clear at rest", x.clear(4), 0);
    check.due("and again", x.raise(5), 1);
    check.due("awake", x.count(2), 0);
    // Neither way is c run.
    x = Check.board(Check.number('i', 0), Check.device('d', Check.method('c', 1, 26, 0, 99), Check.pack('w', 1, 1)),
        Check.device('e', Check.method('c', 1, 26, 0, 98)));
    x.power(2, 0);
    x.power(5, 0);
    x.arm(2);
    check.due("rest", x.rest(1), 1);
    check.due("raise", x.raise(1), 1);
    check.row("notes", Check.notes(x), 2, 1001, 5, 98, 2, 99);
  }

  private static void wakesWithErrors() {
    RestBoard x = Check.board(Check.number('i', 0), Check.device('d', Check.method('y', 1, 26, 0, 1, 28, 0, 9), Check.pack('w', 0, 1)),
        Check.device('e', Check.method('y', 1, 26, 0, 2)));
    x.power(2, 0);
    x.power(5, 0);
    x.arm(2);
    check.due("rest", x.rest(1), 1);
    check.due("raise", x.raise(0), 1);
    check.due("it goes on", x.status(), 0);
    check.row("told", Check.error(x), 8, 9, 3, 3);
    check.row("notes", Check.notes(x), 2, 1000, 5, 2, 2, 1);
    check.due("power", x.node(5, 30), 0);
    check.due("no -7", x.count(20), 0);
  }

  private static void whatItWantedThen() {
    // Its package is changed on the way to rest; when it wakes it has what it wanted ahead of that.
    RestBoard x = Check.board(Check.number('i', 0), Check.resource('a', 4, 0), Check.resource('b', 4, 0),
        Check.device('d', Check.pack('p', 'a'), Check.method('z', 1, 18, 'p', 0, 0, 0, 'b')), Check.device('e', Check.pack('w', 0, 1)));
    x.power(4, 0);
    x.arm(7);
    x.rest(1);
    check.due("off", x.count(3), 0);
    x.raise(0);
    check.due("a", x.node(2, 5), 1);
    check.due("b", x.node(3, 5), 0);
    check.due("package", x.node(5, 10), 'b');
    check.due("wants", x.wants(4), 1 << 2);
    check.due("off", x.power(4, 3), 1);
    check.due("on", x.power(4, 0), 1);
    check.due("wants", x.wants(4), 1 << 3);
  }

  private static void onPaper() {
    RestBoard x = Check.board(Check.number('i', 0), Check.resource('a', 0, 0), Check.number('n', 4),
        Check.device('d', Check.pack('p', 'a'), Check.method('z', 1, 17, 'n', 3, 0, 26, 0, 1)));
    x.power(4, 0);
    int switches = x.count(10);
    check.due("would", x.would(1), 1);
    check.due("0", x.would(0), -1);
    check.due("2", x.would(2), -4);
    check.due("awake", x.count(2), 0);
    check.due("power", x.node(4, 30), 0);
    check.due("count", x.node(2, 5), 1);
    check.due("number", x.node(3, 8), 4);
    check.due("switches", x.count(10), switches);
    check.due("notes", x.count(9), 0);
    check.due("steps", x.count(11), 0);
    check.due("to undo", x.count(12), 2);
    check.due("refused", x.count(14) + x.count(17), 0);
    check.due("status", x.status(), 0);
    check.due("rest", x.rest(1), 1);
    check.due("at rest", x.would(1), -3);
    check.due("steps", x.count(11), 4);
  }
}
