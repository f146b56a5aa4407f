/** Promises 14, 29 and 30: acts taken back, what is counted, what the latest call was refused by. */
public final class UndoTest {
  private static final Check check = new Check("UndoTest");

  public static void main(String[] args) {
    eachAct();
    eightAreKept();
    rowsAreBack();
    whatStays();
    nodesComeAnew();
    counts();
    status();
    check.finish();
  }

  private static void eachAct() {
    RestBoard x = Check.board(Check.number('i', 3), Check.resource('a', 1, 0), Check.method('m', 0, 17, 'i', 0, 2),
        Check.device('d', Check.pack('p', 'a'), Check.pack('w', 2, 1, 'a')));
    x.call(3, 0, 0, 0);
    x.store(1, 1);
    x.power(4, 0);
    x.arm(4);
    x.rest(1);
    x.raise(2);
    x.clear(2);
    check.due("all but the oldest", x.count(12), 8);
    check.due("clear", x.undo(), 8);
    check.due("raised", x.count(5), 4);
    check.due("raise", x.undo(), 7);
    check.due("not raised", x.count(5), 0);
    check.due("rests", x.count(2), 1);
    check.due("no note", x.count(9), 0);
    check.due("rest", x.undo(), 6);
    check.due("awake", x.count(2), 0);
    check.due("power", x.node(4, 30), 0);
    x.disarm(4);
    check.due("disarm", x.undo(), 5);
    check.due("armed", x.node(4, 32), 2);
    check.due("arm", x.undo(), 4);
    check.due("not armed", x.node(4, 31), 0);
    check.due("count", x.node(2, 5), 1);
    check.due("power", x.undo(), 3);
    check.due("count", x.node(2, 5), 0);
    check.due("switches", x.count(10), 0);
    check.due("store", x.undo(), 2);
    check.due("value", x.node(1, 8), 2);
    check.due("call", x.undo(), 1);
    check.due("value", x.node(1, 8), 3);
    check.due("load", x.undo(), 0);
    check.due("nodes", x.count(0), 1);
    check.due("none", x.undo(), -4);
    check.due("status", x.status(), -4);
    check.due("-4s", x.count(17), 1);
  }

  private static void eightAreKept() {
    RestBoard x = Check.board(Check.number('n', 0));
    for (int i = 1; i <= 11; i++) {
      x.store(1, i);
      check.due("kept", x.count(12), Math.min(i + 1, 8));
    }
    for (int i = 1; i <= 8; i++) {
      check.due("undo", x.undo(), 2);
      check.due("value", x.node(1, 8), 11 - i);
      check.due("kept", x.count(12), 8 - i);
    }
    check.due("none", x.undo(), -4);
    check.due("value", x.node(1, 8), 3);
    x.store(1, 50);
    check.due("again", x.undo(), 2);
    check.due("value", x.node(1, 8), 3);
  }

  private static void rowsAreBack() {
    RestBoard x = Check.board(Check.resource('a', 4, 0), Check.resource('b', 4, 1), Check.device('d', Check.pack('w', 2, 3, 'a'),
        Check.method('m', 2, 26, 3, 1, 18, 'w', 3, 0, 3, 1)));
    x.arm(3);
    x.call(5, 0, 4, 0);
    x.call(5, 1, 1, 0);
    x.call(5, 2, 'b', 0);
    x.disarm(3);
    x.arm(3);
    check.due("line", x.node(3, 32), 4);
    check.due("depth", x.node(3, 33), 1);
    check.due("wants", x.wants(3), 1 << 2);
    x.undo();
    x.undo();
    check.due("line", x.node(3, 32), 2);
    check.due("depth", x.node(3, 33), 3);
    check.due("wants", x.wants(3), 1 << 1);
    x.undo();
    check.due("value", x.node(4, 12), 'a');
    check.row("notes", Check.notes(x), 3, 1, 3, 4);
    x.undo();
    check.due("value", x.node(4, 11), 3);
    for (int i = 0; i < 20; i++) {
      x.call(5, 0, i, 0);
    }
    for (int i = 0; i < 3; i++) {
      x.undo();
    }
    check.due("the latest note", x.note(0, 1), 16);
    check.due("the oldest note", x.note(15, 1), 1);
    check.due("disarm", x.disarm(3), 1);
    check.row("switches", Check.switches(x), 1, 0, 1, 1);
  }

  private static void whatStays() {
    RestBoard x = Check.board(Check.field('f', 2, 0, 8, 0), Check.method('m', 0, 17, 'f', 0, 5, 26, 0, 1, 23, 4, 'f', 28, 0, 6), Check.lock('l'),
        Check.method('o', 0, 24, 'l'));
    x.call(4, 0, 0, 0);
    check.due("fails", x.call(2, 0, 0, 0), -7);
    check.due("reads", x.count(6), 1);
    check.due("writes", x.count(7), 3);
    check.due("-4 is not kept", x.clear(0), -4);
    x.feed(1, 2, 3, 4, 5);
    check.due("what failed is undone", x.undo(), 1);
    check.due("status", x.status(), 0);
    check.due("register", x.register(2, 0), 0);
    check.due("select", x.count(8), 0);
    check.due("reads", x.count(6), 0);
    check.due("writes", x.count(7), 0);
    check.due("notes", x.count(9), 0);
    check.row("the error stays", Check.error(x), 8, 6, 2, 10);
    check.due("steps stay", x.count(11), 8);
    check.due("the tape stays", x.count(13), 20);
    check.due("-4 stays", x.count(17), 1);
    check.due("-7 stays", x.count(20), 1);
    check.due("forgotten", x.node(3, 24), 1);
    x.undo();
    check.due("forgotten", x.node(3, 24), 0);
    x.load(0);
    check.due("fault", x.fault(), 0);
    x.undo();
    check.due("the load is undone", x.count(0), 1);
    check.due("the fault stays", x.fault(), 0);
    check.row("the error stays", Check.error(x), 8, 6, 2, 10);
  }

  private static void nodesComeAnew() {
    // A node that has been undone leaves nothing for the next one of its number.
    RestBoard x = Check.board(Check.resource('a', 4, 0), Check.device('d', Check.pack('p', 'a'), Check.pack('w', 3, 4, 'a')), Check.lock('l'),
        Check.method('m', 0, 24, 'l'));
    x.power(2, 0);
    x.arm(2);
    x.call(6, 0, 0, 0);
    for (int i = 0; i < 4; i++) {
      x.undo();
    }
    check.due("nodes", x.count(0), 1);
    check.due("armed", x.count(4), 0);
    check.due("on", x.count(3), 0);
    Check.load(x, 0, Check.resource('a', 4, 0), Check.device('d'), Check.number('n', 3), Check.pack('p', 8), Check.lock('l'), Check.lock('m'));
    check.due("power", x.node(2, 30), 3);
    check.due("line", x.node(2, 32), -1);
    check.due("count", x.node(1, 5), 0);
    check.due("forgotten", x.node(5, 24), 0);
    check.due("value", x.node(3, 8), 3);
    check.due("value", x.node(4, 10), 8);
    check.due("wants", x.wants(2), 0);
    check.due("look up", x.lookUp(2, 'p'), 4);
    check.due("look up", x.lookUp(2, 'w'), -1);
    check.due("undo", x.undo(), 0);
    check.due("look up", x.lookUp(0, 'a'), -1);
  }

  private static void counts() {
    RestBoard x = Check.board(Check.device('d', Check.device('e'), Check.lock('l')), Check.resource('a', 0, 0));
    check.due("nodes", x.count(0), 5);
    check.due("devices", x.count(1), 3);
    for (int line = 0; line < 8; line++) {
      x.raise(line);
    }
    check.due("lines", x.count(5), 255);
    x.feed(0, 0, 0, 0, 0);
    check.due("tape", x.count(13), 20);
    check.due("kept", x.count(12), 8);
    check.due("none", x.count(21), -1);
    check.due("none", x.count(Integer.MAX_VALUE), -1);
    check.due("none", x.count(Integer.MIN_VALUE), -1);
  }

  private static void status() {
    RestBoard x = Check.board(Check.number('i', 0), Check.method('m', 0, 28, 0, 1), Check.device('d', Check.pack('p', 'a')), Check.resource('a', 0, 0),
        Check.device('e', Check.pack('w', 1, 1)));
    x.rest(9);
    check.due("-1", x.status(), -1);
    x.order(0);
    x.feed(0, 0, 0, 0, 0);
    x.end(99);
    x.would(9);
    x.tries(99, 0, 0, 0, 0);
    check.due("others tell nothing of it", x.status(), -1);
    x.arm(99);
    check.due("-2", x.status(), -2);
    x.load(0);
    check.due("-6", x.status(), -6);
    x.call(2, 0, 0, 0);
    check.due("-7", x.status(), -7);
    x.power(3, 0);
    check.due("0", x.status(), 0);
    x.arm(6);
    x.disarm(3);
    check.due("-4", x.status(), -4);
    x.store(1, 2);
    check.due("0", x.status(), 0);
    check.due("would", x.would(1), 1);
    x.rest(1);
    x.store(1, 2);
    check.due("-3", x.status(), -3);
    x.undo();
    check.due("0", x.status(), 0);
    int[] due = {1, 1, 1, 1, 0, 1, 1};
    for (int i = 0; i < due.length; i++) {
      check.due("refused by -" + (i + 1), x.count(14 + i), due[i]);
    }
  }
}
