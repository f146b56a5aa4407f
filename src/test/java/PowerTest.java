/** Promises 8, 9, 10, 19, 20, 28: powers, what they want, what is armed, what was switched. */
public final class PowerTest {
  private static final Check check = new Check("PowerTest");

  public static void main(String[] args) {
    refusals();
    counts();
    orders();
    whatItCan();
    ownMethod();
    asItWasThen();
    arming();
    wanting();
    manySwitches();
    check.finish();
  }

  private static void refusals() {
    RestBoard x = Check.board(Check.device('d', Check.device('e'), Check.pack('q')), Check.number('i', 0));
    check.due("power 4", x.power(1, 4), -1);
    check.due("power -1", x.power(1, -1), -1);
    check.due("-1 ahead of -2", x.power(9, 4), -1);
    check.due("the root", x.power(0, 1), -2);
    check.due("no device", x.power(3, 1), -2);
    check.due("no node", x.power(9, 1), -2);
    check.due("it is so", x.power(1, 3), -4);
    check.due("down to 0", x.power(1, 0), 0);
    check.due("its child, too", x.power(2, 0), 0);
    check.due("above its child's", x.power(1, 1), -4);
    check.due("child off", x.power(2, 3), 0);
    check.due("now it can", x.power(1, 1), 0);
    check.due("child below its parent's", x.power(2, 0), -4);
    check.due("no r", x.power(1, 2), -4);
    check.due("power", x.node(1, 30), 1);
    check.due("-4s", x.count(17), 4);
    check.due("to undo", x.count(12), 5);
    x.rest(1);
    check.due("at rest", x.power(1, 0), -3);
    check.due("-2 ahead of -3", x.power(0, 0), -2);
  }

  private static void counts() {
    RestBoard x = Check.board(Check.resource('a', 0, 0), Check.resource('b', 0, 0), Check.resource('c', 0, 0),
        Check.device('d', Check.pack('p', 'a', 'b', 'a'), Check.pack('q', 'b', 'c'), Check.pack('r')),
        Check.device('e', Check.pack('p', 'a')));
    check.due("two on", x.power(4, 0), 2);
    check.due("as often as they are", x.node(1, 5), 2);
    check.due("once", x.node(2, 5), 1);
    check.due("on", x.count(3), 2);
    check.due("none switched", x.power(8, 0), 0);
    check.due("three", x.node(1, 5), 3);
    check.due("c on, a stays on by the other", x.power(4, 1), 1);
    check.due("a", x.node(1, 5), 1);
    check.due("b", x.node(2, 5), 1);
    check.due("c", x.node(3, 5), 1);
    check.due("two off", x.power(4, 2), 2);
    check.due("one off", x.power(8, 3), 1);
    check.due("none on", x.count(3), 0);
    check.row("switches", Check.switches(x), 1, 0, 2, 0, 3, 0, 3, 1, 2, 1, 1, 1);
    check.due("no more", x.switched(6, 0), -1);
    check.due("no more", x.switched(-1, 0), -1);
    check.due("no more", x.switched(0, 2), -1);
  }

  private static void orders() {
    RestBoard x = Check.board(Check.resource('a', 0, 5), Check.resource('b', 0, 1), Check.resource('c', 0, 5), Check.resource('e', 0, 9),
        Check.resource('f', 0, 0), Check.device('d', Check.pack('p', 'c', 'e', 'a', 'b', 'f', 'c'), Check.pack('q', 'a')));
    check.due("on", x.power(6, 0), 5);
    check.row("rising", Check.switches(x), 4, 1, 3, 1, 1, 1, 2, 1, 5, 1);
    check.due("off", x.power(6, 1), 4);
    check.row("falling", Check.switches(x), 5, 0, 2, 0, 3, 0, 4, 0, 4, 1, 3, 1, 1, 1, 2, 1, 5, 1);
    check.due("back", x.power(6, 3), 1);
    x.power(6, 1);
    check.due("new ones first, then old ones", x.power(6, 0), 4);
  }

  private static void whatItCan() {
    RestBoard x = Check.board(Check.resource('a', 0, 0), Check.number('n', 0), Check.device('d', Check.pack('p', 'n')),
        Check.device('e', Check.number('p', 0), Check.number('q', 0), Check.pack('r', 'a', 0)),
        Check.device('f', Check.resource('p', 0, 0), Check.pack('q', 'p'), Check.pack('r', 1 << 8 | 'a')),
        Check.device('g', Check.number('a', 0), Check.pack('p', 'a'), Check.device('h', Check.pack('p', 'a'), Check.pack('q', 'g'))));
    check.due("a number's name", x.power(3, 0), -4);
    check.due("0 without a package p", x.power(5, 0), 0);
    check.due("none wanted", x.wants(5), 0);
    check.due("1 without a package q", x.power(5, 1), -4);
    check.due("2 with no name", x.power(5, 2), -4);
    check.due("1 with its own resource", x.power(9, 1), 1);
    check.due("which", x.wants(9), 1 << 10);
    check.due("0 without p", x.power(9, 0), 1);
    check.due("2 with what is above a byte", x.power(9, 2), -4);
    check.due("nearer than the resource", x.power(13, 0), -4);
    check.due("from its parent on", x.power(16, 0), -4);
    check.due("a device's name", x.power(16, 1), -4);
  }

  private static void ownMethod() {
    RestBoard x = Check.board(Check.resource('a', 0, 0), Check.resource('b', 0, 1), Check.number('n', 0),
        Check.device('d', Check.pack('p', 'a', 'b'), Check.pack('q', 'b'),
            Check.method('c', 1, 17, 'n', 3, 0, 26, 9, 'a', 19, 7, 9, 3, 0, 0, 1, 3, 28, 0, 42, 22, 0, 9)),
        Check.device('e', Check.method('c', 0, 28, 0, 1)), Check.device('f', Check.number('c', 0), Check.device('g')));
    check.due("how many switches", x.power(4, 0), 2);
    check.due("run with the power", x.node(3, 8), 0);
    check.due("behind the switches", x.note(0, 1), 1);
    check.due("its steps", x.count(11), 10);
    check.due("fails", x.power(4, 1), -7);
    check.row("its error", Check.error(x), 8, 42, 7, 15);
    check.due("taken back", x.node(4, 30), 0);
    check.due("counted again", x.node(1, 5), 1);
    check.due("counted again", x.node(2, 5), 1);
    check.row("switches stay", Check.switches(x), 1, 1, 1, 0, 2, 1, 1, 1);
    check.due("what was stored stays", x.node(3, 8), 1);
    check.due("the note stays", x.count(9), 2);
    check.row("the note stays", Check.notes(x), 4, 0, 4, 1);
    check.due("steps", x.count(11), 10);
    check.due("told as undone", x.undo(), 3);
    check.due("undone", x.node(3, 8), 0);
    check.due("undone", x.count(10), 2);
    check.due("another number of args", x.power(8, 0), 0);
    check.due("no steps", x.count(11), 0);
    check.due("no method", x.power(10, 0), 0);
    check.due("its own alone", x.power(12, 0), 0);
    x.power(4, 3);
    check.due("steps", x.count(11), 10);
    check.due("it is so", x.power(4, 3), -4);
    check.due("steps stay", x.count(11), 10);
  }

  private static void asItWasThen() {
    // What it wanted is kept, whatever its package holds later.
    RestBoard x = Check.board(Check.resource('a', 0, 0), Check.resource('b', 0, 0), Check.device('d', Check.pack('p', 'a'), Check.pack('q', 'b'),
        Check.method('m', 2, 18, 'p', 3, 0, 3, 1)));
    x.power(3, 0);
    x.call(6, 0, 'b', 0);
    check.due("package", x.node(4, 10), 'b');
    check.due("wants", x.wants(3), 1 << 1);
    check.due("wanted", x.wanted(1), 1 << 3);
    check.due("not wanted", x.wanted(2), 0);
    check.due("to 1", x.power(3, 1), 2);
    check.due("a", x.node(1, 5), 0);
    check.due("b", x.node(2, 5), 1);
    check.due("to 0", x.power(3, 0), 0);
    check.due("b", x.node(2, 5), 1);
    check.due("wants", x.wants(3), 1 << 2);
    x.call(6, 0, 0, 0);
    x.power(3, 1);
    check.due("it can't now", x.power(3, 0), -4);
    // A nearer resource comes, but the other one is counted.
    x = Check.board(Check.resource('a', 0, 0), Check.device('d', Check.pack('p', 'a')));
    x.power(2, 0);
    Check.load(x, 2, Check.resource('a', 0, 0));
    check.due("wants", x.wants(2), 1 << 1);
    check.due("off", x.power(2, 3), 1);
    check.due("on", x.power(2, 0), 1);
    check.due("wants the nearer one", x.wants(2), 1 << 4);
  }

  private static void arming() {
    RestBoard x = Check.board(Check.resource('a', 4, 0), Check.device('d', Check.pack('w', 7, 1)), Check.device('e', Check.pack('w', 8, 1)),
        Check.device('f', Check.pack('w', 0, 0)), Check.device('g', Check.pack('w', 0, 5)), Check.device('h', Check.pack('w', 0)),
        Check.device('m', Check.number('w', 0)), Check.device('n', Check.pack('w', 0, 4, 'x')), Check.device('o'),
        Check.device('p', Check.pack('w', 0, 4, 'a', 'a', 'b', 'b'), Check.resource('b', 4, 1), Check.method('m', 2, 18, 'w', 3, 0, 3, 1)),
        Check.number('i', 0));
    check.due("line 7, depth 1", x.arm(2), 7);
    check.due("it is", x.arm(2), -4);
    check.due("line 8", x.arm(4), -4);
    check.due("depth 0", x.arm(6), -4);
    check.due("depth 5", x.arm(8), -4);
    check.due("one value", x.arm(10), -4);
    check.due("no package", x.arm(12), -4);
    check.due("no resource", x.arm(14), -4);
    check.due("no w", x.arm(16), -4);
    check.due("the root", x.arm(0), -2);
    check.due("no device", x.arm(1), -2);
    check.due("no node", x.arm(22), -2);
    check.due("four resources", x.arm(17), 0);
    check.due("a", x.node(1, 5), 2);
    check.due("b", x.node(19, 5), 2);
    check.row("switches", Check.switches(x), 19, 1, 1, 1);
    check.due("armed", x.count(4), 2);
    check.due("wants", x.wants(17), 1 << 1 | 1 << 19);
    x.call(20, 0, 5, 0);
    x.call(20, 1, 2, 0);
    x.call(20, 2, 0, 0);
    check.due("line as it was", x.node(17, 32), 0);
    check.due("depth as it was", x.node(17, 33), 4);
    check.due("the root", x.disarm(0), -2);
    check.due("no device", x.disarm(1), -2);
    check.due("not armed", x.disarm(4), -4);
    check.due("disarmed", x.disarm(17), 2);
    check.row("switches", Check.switches(x), 1, 0, 19, 0, 19, 1, 1, 1);
    check.due("line", x.node(17, 32), -1);
    check.due("depth", x.node(17, 33), -1);
    check.due("it is not", x.disarm(17), -4);
    check.due("it can't be armed now", x.arm(17), -4);
    check.due("armed", x.count(4), 1);
    check.due("to rest", x.rest(1), 0);
    check.due("arm at rest", x.arm(17), -3);
    check.due("disarm at rest", x.disarm(2), -3);
  }

  private static void wanting() {
    RestBoard x = Check.board(Check.resource('a', 4, 0), Check.resource('b', 4, 0),
        Check.device('d', Check.pack('p', 'a'), Check.pack('w', 0, 4, 'b'), Check.device('e', Check.pack('p', 'b'))));
    check.due("the root", x.wants(0), 0);
    check.due("none", x.wants(3), 0);
    check.due("no device", x.wants(1), -1);
    check.due("no node", x.wants(8), -1);
    check.due("no resource", x.wanted(3), -1);
    check.due("no node", x.wanted(-1), -1);
    check.due("by none", x.wanted(1), 0);
    x.power(3, 0);
    x.arm(3);
    x.power(6, 0);
    check.due("either way", x.wants(3), 1 << 1 | 1 << 2);
    check.due("by one", x.wanted(1), 1 << 3);
    check.due("by both", x.wanted(2), 1 << 3 | 1 << 6);
    x.disarm(3);
    check.due("no more", x.wants(3), 1 << 1);
    // Node 31 is a bit of a long.
    int[] many = {};
    for (int i = 0; i < 24; i++) {
      many = Check.bytes(many, Check.lock((char) ('a' + i)));
    }
    x = Check.board(many, Check.number('y', 0), Check.device('z', Check.lock('a'), Check.lock('b'), Check.lock('c'), Check.pack('p', 'y'),
        Check.resource('y', 0, 0)));
    check.due("the last one", x.node(31, 0), 2);
    check.due("power", x.power(26, 0), 1);
    check.due("wants 31", x.wants(26), 1L << 31);
    check.due("wanted", x.wanted(31), 1L << 26);
    check.due("switched", x.switched(0, 0), 31);
  }

  private static void manySwitches() {
    RestBoard x = Check.board(Check.resource('a', 0, 0), Check.resource('b', 0, 1), Check.device('d', Check.pack('p', 'a'), Check.pack('q', 'b')));
    x.power(3, 0);
    for (int i = 0; i < 15; i++) {
      x.power(3, 1 - i % 2);
    }
    check.due("31", x.count(10), 31);
    check.due("the oldest", x.switched(30, 0), 1);
    x.power(3, 0);
    check.due("32", x.count(10), 32);
    check.due("the oldest", x.switched(31, 0), 2);
    check.due("no more", x.switched(32, 0), -1);
  }
}
