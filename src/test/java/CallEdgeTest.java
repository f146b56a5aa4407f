import java.util.Arrays;
import java.util.function.IntSupplier;

/** The edges that promises 14 to 16, 29 and 30 name, and numbers of any size for every call. */
public final class CallEdgeTest {
  private static final Check check = new Check("CallEdgeTest");

  public static void main(String[] args) {
    undoNothing();
    undoEachAct();
    undoEight();
    undoBehindUndo();
    whatIsNotKept();
    whatIsKeptThoughRefused();
    whatUndoLeaves();
    undoAtRest();
    undoLastNode();
    undoOfTheLastDevices();
    undoOfFullRows();
    nodesTell();
    codesTell();
    countsTell();
    countsOfRefusals();
    statusOfEach();
    statusOfQuestions();
    firstInThatOrder();
    anyNumbers();
    manyCalls();
    check.finish();
  }

  private static int[] row(Object... parts) {
    return Check.bytes(parts);
  }

  private static void undoNothing() {
    check.says("-4 there is none.");
    RestBoard x = new RestBoard();
    check.refused("at first", x, -4, x::undo);
    check.refused("and again", x, -4, x::undo);
    Check.load(x, 0, "La");
    check.due("one", x.undo(), 0);
    check.refused("no more", x, -4, x::undo);
    check.due("-4s", x.count(17), 3);
  }

  /** A board on which each of the nine acts can be done. */
  private static RestBoard full() {
    return Check.board(Check.number('i', 1), Check.resource('a', 4, 1), Check.resource('b', 4, 0), "Ll", Check.field('f', 2, 4, 8, 0),
        Check.method('m', 1, 24, 'l', 17, 'f', 3, 0, 26, 4, 'f', 18, 'q', 0, 0, 0, 'b', 17, 'i', 0, 2), Check.pack('q', 1),
        Check.device('d', Check.pack('p', 'a', 'b'), Check.pack('q', 'b'), Check.pack('r', 'a'), Check.pack('w', 3, 4, 'b'), Check.method('c', 1, 26, 3, 0), Check.method('z', 1, 26, 0, 7, 17, 'i', 0, 1),
            Check.method('y', 1, 26, 0, 8), Check.device('e', Check.pack('p', 'a'))));
  }

  private static void undoEachAct() {
    check.says("The latest load() (told as 0), call() (1), store() (2), power() (3), arm() (4), disarm() (5), rest() (6), raise() (7), clear() (8) that was not REFUSED");
    check.says("(all but the TAPE, FAULT, the latest ERROR, STEPS, what is told of REFUSED calls is as it was): that.");
    RestBoard x = full();
    int d = 8;
    IntSupplier[] acts = {() -> Check.load(x, d, "Lx", Check.number('v', 5)), () -> x.call(6, 0x1ff, 0, 0), () -> x.store(5, 77), () -> x.power(d, 0), () -> x.arm(d), () -> x.disarm(d), () -> x.rest(1),
      () -> x.raise(3), () -> x.clear(3)};
    int[] order = {0, 1, 2, 3, 4, 5, 4, 6, 7, 8, 3, 2, 1};
    for (int act : order) {
      if (act == 3 && x.node(d, 30) != 3) {
        check.due("off", x.power(d, 3) >= 0 ? 1 : 0, 1);
      }
      long[] before = Check.standing(x);
      int kept = x.count(12);
      check.due("act " + act, acts[act].getAsInt() >= 0 ? 1 : 0, 1);
      long[] after = Check.standing(x);
      check.due("act " + act + " does something", Arrays.equals(before, after) ? 1 : 0, 0);
      check.due("undo of " + act, x.undo(), act);
      check.due("status", x.status(), 0);
      check.same("undone: " + act, Check.standing(x), before);
      check.due("kept", x.count(12), Math.min(kept, 7));
      check.due("act " + act + " again", acts[act].getAsInt() >= 0 ? 1 : 0, 1);
      check.same("done again: " + act, Check.standing(x), after);
    }
  }

  private static void undoEight() {
    check.says("(8 are kept)");
    for (int many = 1; many <= 20; many++) {
      RestBoard x = Check.board(Check.number('n', 0));
      for (int i = 1; i <= many; i++) {
        x.store(1, i);
      }
      check.due("kept", x.count(12), Math.min(many + 1, 8));
      for (int i = 1; i <= 8; i++) {
        boolean first = many - i < 0;
        if (many + 1 - i < 0) {
          check.refused("none", x, -4, x::undo);
          continue;
        }
        check.due("undo " + i + " of " + many, x.undo(), first ? 0 : 2);
        check.due("value", x.node(1, 8), first ? -1 : many - i);
        check.due("kept", x.count(12), Math.min(many + 1, 8) - i);
      }
      check.refused("none", x, -4, x::undo);
    }
  }

  private static void undoBehindUndo() {
    check.says("12 how many can be undone");
    RestBoard x = Check.board(Check.number('n', 0));
    for (int i = 1; i <= 10; i++) {
      x.store(1, i);
    }
    for (int i = 0; i < 5; i++) {
      x.undo();
    }
    check.due("three are left", x.count(12), 3);
    check.due("value", x.node(1, 8), 5);
    for (int i = 1; i <= 7; i++) {
      x.store(1, 100 + i);
      check.due("kept", x.count(12), Math.min(3 + i, 8));
    }
    int[] due = {106, 105, 104, 103, 102, 101, 5, 4};
    for (int value : due) {
      check.due("undo", x.undo(), 2);
      check.due("value", x.node(1, 8), value);
    }
    check.refused("none", x, -4, x::undo);
  }

  private static void whatIsNotKept() {
    check.says("that was not REFUSED, or was by -5, -7, by -4 behind METHODS");
    RestBoard x = full();
    x.call(6, 1, 0, 0);
    check.refused("-1", x, -1, () -> x.store(1, -1));
    check.refused("-1", x, -1, () -> x.call(6, -1, 0, 0));
    check.refused("-1", x, -1, () -> x.power(8, 9));
    check.refused("-1", x, -1, () -> x.rest(9));
    check.refused("-1", x, -1, () -> x.raise(9));
    check.refused("-1", x, -1, () -> x.clear(9));
    check.refused("-2", x, -2, () -> x.load(1));
    check.refused("-2", x, -2, () -> x.arm(0));
    check.refused("-2", x, -2, () -> x.disarm(0));
    check.refused("-4", x, -4, () -> x.power(8, 3));
    check.refused("-4", x, -4, () -> x.disarm(8));
    check.refused("-4", x, -4, () -> x.rest(2));
    check.refused("-4", x, -4, () -> x.clear(1));
    check.due("-6", x.load(0), -6);
    check.due("two are kept", x.count(12), 2);
    check.due("the call", x.undo(), 1);
    check.due("the load", x.undo(), 0);
    check.refused("none", x, -4, x::undo);
  }

  private static void whatIsKeptThoughRefused() {
    check.says("or was by -5, -7, by -4 behind METHODS (rest(), if it was ALLOWED) (8 are kept) is undone");
    RestBoard x = Check.board(Check.number('i', 0), Check.number('n', 1), Check.resource('a', 0, 0), Check.method('m', 0, 17, 'n', 0, 9, 28, 0, 1),
        Check.device('d', Check.pack('w', 1, 4), Check.pack('p', 'a'), Check.method('c', 1, 17, 'n', 7, 0, 4, 'n', 0, 1, Check.block(19, row(7, 9, 3, 0, 0, 3), 28, 0, 2))));
    x.power(5, 0);
    x.arm(5);
    long[] before = Check.standing(x);
    int[] due = {1, 3, 6};
    IntSupplier[] acts = {() -> x.call(4, 0, 0, 0), () -> x.power(5, 3), () -> x.rest(1)};
    int[] by = {-7, -7, -5};
    for (int i = 0; i < acts.length; i++) {
      int kept = x.count(12);
      check.due("act " + due[i], acts[i].getAsInt(), by[i]);
      check.due("kept", x.count(12), kept + 1);
      check.due("told as undone", x.undo(), due[i]);
      check.same("undone: " + due[i], Check.standing(x), before);
      check.due("status", x.status(), 0);
    }
    check.due("refused by -5", x.count(18), 1);
    check.due("refused by -7", x.count(20), 2);
    for (int i = 0; i < 9; i++) {
      x.call(4, 0, 0, 0);
    }
    check.due("eight of them", x.count(12), 8);
  }

  private static void whatUndoLeaves() {
    check.says("all but the TAPE, FAULT, the latest ERROR, STEPS, what is told of REFUSED calls is as it was");
    RestBoard x = Check.board(Check.method('m', 0, 23, 0, 1, 28, 0, 5), Check.number('n', 1));
    x.store(2, 5);
    x.call(1, 0, 0, 0);
    x.store(2, -1);
    x.load(0);
    x.feed(1, 2, 3, 4, 5);
    check.due("the call", x.undo(), 1);
    check.due("the store", x.undo(), 2);
    check.due("the load", x.undo(), 0);
    check.due("tape", x.count(13), 20);
    check.due("fault", x.fault(), 0);
    check.due("error", x.error(0), 8);
    check.due("reason", x.error(1), 5);
    check.due("trace", x.error(10), 1);
    check.due("place", x.error(11), 3);
    check.due("steps", x.count(11), 4);
    check.due("-1s", x.count(14), 1);
    check.due("-6s", x.count(19), 1);
    check.due("-7s", x.count(20), 1);
    check.due("nodes", x.count(0), 1);
  }

  private static void undoAtRest() {
    check.says("`int undo()`: The latest load()");
    RestBoard x = full();
    x.power(8, 0);
    x.arm(8);
    long[] awake = Check.standing(x);
    check.due("rest", x.rest(1), 1);
    long[] asleep = Check.standing(x);
    check.due("raise", x.raise(3), 1);
    check.due("undone", x.undo(), 7);
    check.same("at rest again", Check.standing(x), asleep);
    check.due("raise", x.raise(2), 0);
    check.due("undone at rest", x.undo(), 7);
    check.due("undone at rest", x.undo(), 6);
    check.same("awake again", Check.standing(x), awake);
    check.due("arm", x.undo(), 4);
    check.due("power", x.undo(), 3);
    // A rest that is come back to wakes as it would have.
    x.power(8, 0);
    x.arm(8);
    x.rest(1);
    x.raise(3);
    x.clear(3);
    x.disarm(8);
    x.power(8, 3);
    for (int i = 0; i < 4; i++) {
      x.undo();
    }
    check.due("it rests", x.count(2), 1);
    check.same("at rest again", Check.standing(x), asleep);
    check.due("wakes", x.raise(3), 1);
    check.due("power", x.node(8, 30), 0);
    check.due("a", x.node(2, 5), 1);
    check.due("b", x.node(3, 5), 2);
  }

  /** What node 31 holds is put back, too, whatever its kind. */
  private static void undoLastNode() {
    check.says("all but the TAPE, FAULT, the latest ERROR, STEPS, what is told of REFUSED calls is as it was");
    int[] locks = {};
    for (int i = 0; i < 20; i++) {
      locks = row(locks, 'L', 'a' + i);
    }
    int[] fill = row("La", "Lb", "Lc", "Ld", "Le", "Lf", "Lg");
    RestBoard x = Check.board(locks, Check.method('u', 0, 17, 'n', 0, 9), Check.device('v', fill, Check.method('m', 0, 17, 'x', 0, 9), Check.number('x', 1)));
    check.due("node 31", x.node(31, 0), 4);
    keeps(x, () -> x.call(30, 0, 0, 0), 1);
    keeps(x, () -> x.store(31, 7), 2);
    RestBoard p = Check.board(locks, Check.method('u', 0, 17, 'n', 0, 9), Check.device('v', fill, Check.method('m', 0, 18, 'x', 0, 5, 0, 9), Check.pack('x', 1, 2, 3, 4, 5, 6)));
    keeps(p, () -> p.call(30, 0, 0, 0), 1);
    RestBoard l = Check.board(locks, Check.method('u', 0, 17, 'n', 0, 9), Check.device('v', fill, Check.method('m', 0, 24, 'x'), "Lx"));
    keeps(l, () -> l.call(30, 0, 0, 0), 1);
    RestBoard r = Check.board(locks, Check.device('u', Check.pack('p', 'z', 'z', 'z', 'z', 'z', 'z'), Check.pack('w', 1, 1, 'z', 'z', 'z', 'z'), "La", "Lb", "Lc", "Ld", "Le", "Lf", "Lg", Check.resource('z', 4, 0)));
    check.due("node 31", r.node(31, 0), 2);
    keeps(r, () -> r.power(21, 0), 3);
    r.power(21, 0);
    keeps(r, () -> r.arm(21), 4);
    keeps(r, () -> r.power(21, 3), 3);
    r.arm(21);
    keeps(r, () -> r.disarm(21), 5);
    check.due("ten in all", r.node(31, 5), 10);
    RestBoard d = Check.board(Check.number('i', 0), locksWithout('i'), Check.device('u', "La", "Lb", "Lc", "Ld", "Le", "Lf", "Lg", "Lh", "Lk"), Check.device('v'));
    check.due("node 31", d.node(31, 30), 3);
    check.due("none has another power", d.rest(1), 0);
    check.due("undone", d.undo(), 6);
    keeps(d, () -> d.power(31, 0), 3);
    d.power(31, 0);
    keeps(d, () -> d.rest(1), 6);
    d.rest(1);
    check.due("off", d.node(31, 30), 3);
    check.due("switches none", d.count(10), 0);
    // Node 31 has another power ahead of each of two rests.
    RestBoard t = Check.board(Check.number('i', 0), locksWithout('i'), Check.device('u', Check.pack('w', 5, 4), "La", "Lb", "Lc", "Ld", "Le", "Lf", "Lg", "Lh"), Check.device('v'));
    t.arm(21);
    t.power(31, 0);
    t.rest(1);
    check.due("wakes", t.raise(5), 1);
    check.due("power", t.node(31, 30), 0);
    t.clear(5);
    t.power(31, 3);
    check.due("none has another power", t.rest(1), 0);
    for (int i = 0; i < 4; i++) {
      t.undo();
    }
    check.due("the first rest", t.raise(5), 1);
    check.due("power", t.node(31, 30), 0);
    // Node 30 is armed and has its package as node 31.
    RestBoard w = Check.board(Check.number('i', 0), locksWithout('i'), Check.device('u', "La", "Lb", "Lc", "Ld", "Le", "Lf", "Lg", "Lh"), Check.device('v', Check.pack('w', 7, 4)));
    check.due("node 31", w.node(31, 9), 2);
    keeps(w, () -> w.arm(30), 4);
    w.arm(30);
    keeps(w, () -> w.raise(7), 7);
  }

  private static void undoOfTheLastDevices() {
    check.says("all but the TAPE, FAULT, the latest ERROR, STEPS, what is told of REFUSED calls is as it was");
    int[] p = Check.pack('p', 'a', 'b', 'a', 'b', 'a', 'b');
    int[] q = Check.pack('q', 'b', 'b', 'b', 'b', 'b', 'b');
    int[] w = Check.pack('w', 2, 4, 'a', 'a', 'b', 'b');
    int[] locks = {};
    for (int i = 0; i < 11; i++) {
      locks = row(locks, 'L', 'l' + i);
    }
    RestBoard x = Check.board(Check.number('i', 3), Check.resource('a', 4, 0), Check.resource('b', 4, 1), locks, Check.device('c', p, q, w), Check.device('d', p, q), Check.device('f'), Check.device('g'), Check.device('h'),
        Check.device('k', "La", "Lb"), Check.device('e', p, q, w));
    check.due("32 nodes", x.count(0), 32);
    int[] devices = {15, 19, 22, 23, 24, 25, 28};
    for (int device : devices) {
      check.due("a device", x.node(device, 30), 3);
    }
    keeps(x, () -> x.arm(28), 4);
    x.arm(28);
    keeps(x, () -> x.disarm(28), 5);
    x.disarm(28);
    for (int device : devices) {
      keeps(x, () -> x.power(device, 0), 3);
      x.power(device, 0);
    }
    keeps(x, () -> x.arm(15), 4);
    keeps(x, () -> x.arm(28), 4);
    x.arm(28);
    x.arm(15);
    keeps(x, () -> x.disarm(28), 5);
    keeps(x, () -> x.power(28, 1), 3);
    keeps(x, () -> x.rest(1), 6);
    long[] awake = Check.standing(x);
    x.rest(1);
    long[] asleep = Check.standing(x);
    x.raise(2);
    x.clear(2);
    x.power(19, 1);
    x.power(28, 1);
    x.power(25, 3);
    x.rest(1);
    for (int i = 0; i < 6; i++) {
      x.undo();
    }
    check.same("the first rest", Check.standing(x), asleep);
    check.due("wakes", x.raise(2), 2);
    for (int device : devices) {
      check.due("power of " + device, x.node(device, 30), 0);
    }
    check.due("wants", x.wants(28), 12);
    check.due("wants", x.wants(19), 12);
    check.due("a", x.node(2, 5), 13);
    check.due("b", x.node(3, 5), 13);
    x.undo();
    x.undo();
    check.same("ahead of the rest", Check.standing(x), awake);
  }

  /** Rows that are full lose their oldest by an act; undone, they have it again. */
  private static void undoOfFullRows() {
    check.says("all but the TAPE, FAULT, the latest ERROR, STEPS, what is told of REFUSED calls is as it was");
    int[] noter = Check.method('m', 1, 26, 3, 0);
    RestBoard x = Check.board(noter, Check.device('d', noter), Check.device('e', Check.method('m', 1, 16, 0, 3, 0, Check.block(21, row(2, 0), 26, 2, 0, 16, 0, 7, 1, 2, 0, 0, 1))));
    for (int i = 0; i < 23; i++) {
      x.call(i % 3 == 0 ? 1 : 3, i, 0, 0);
    }
    keeps(x, () -> x.call(5, 1, 0, 0), 1);
    keeps(x, () -> x.call(5, 40, 0, 0), 1);
    keeps(x, () -> x.call(5, 16, 0, 0), 1);
    RestBoard y = Check.board(Check.resource('a', 0, 0), Check.resource('b', 0, 1), Check.resource('e', 0, 2), Check.device('d', Check.pack('p', 'a'), Check.pack('q', 'b'), Check.pack('r', 'e')), Check.device('f', Check.pack('w', 1, 1, 'b', 'e')));
    for (int i = 0; i < 20; i++) {
      y.power(4, i % 3);
    }
    check.due("full", y.count(10), 32);
    keeps(y, () -> y.power(4, 3), 3);
    keeps(y, () -> y.power(4, 0), 3);
    keeps(y, () -> y.arm(8), 4);
  }

  private static int[] locksWithout(char name) {
    int[] locks = {};
    for (int i = 0; i < 20; i++) {
      locks = 'a' + i == name ? locks : row(locks, 'L', 'a' + i);
    }
    return locks;
  }

  private static void keeps(RestBoard x, IntSupplier act, int due) {
    long[] before = Check.standing(x);
    check.due("act " + due, act.getAsInt() >= 0 ? 1 : 0, 1);
    check.due("act " + due + " does something", Arrays.equals(Check.standing(x), before) ? 1 : 0, 0);
    check.due("undone", x.undo(), due);
    check.same("undone: " + due, Check.standing(x), before);
  }

  private static void nodesTell() {
    check.says("Of a NODE: KIND (what 0), NAME (1; 0 of the ROOT), PARENT (2; NONE of the ROOT); of a RESOURCE LEVEL (3), ORDER (4), COUNT (5); of a METHOD ARGS (6), bytes of CODE (7);");
    check.says("of a PACKAGE how many VALUES (9), the i-th (10 + i); of a FIELD BANK (20), OFFSET (21), WIDTH (22), RULE (23); of a LOCK how many were FORGOTTEN (24); of a DEVICE POWER (30), 1 if ARMED (31),");
    RestBoard x = Check.board(Check.device('d', Check.pack('w', 7, 4, 'r'), Check.device('e')), Check.resource('r', 4, 9), Check.method('m', 3, 22, 3, 2), Check.number('n', 65535), Check.pack('p', 1, 2, 3, 4, 5, 65535),
        Check.field('f', 4, 48, 16, 2), "Ll", Check.pack('q'));
    x.arm(1);
    int[][] due = {{0, 1, 1, 0, 30, 0, 31, 0}, {0, 1, 1, 'd', 2, 0, 30, 3, 31, 1, 32, 7, 33, 4}, {0, 5, 1, 'w', 2, 1, 9, 3, 10, 7, 11, 4, 12, 'r'}, {0, 1, 1, 'e', 2, 1, 30, 3, 31, 0},
      {0, 2, 1, 'r', 2, 0, 3, 4, 4, 9, 5, 1}, {0, 3, 1, 'm', 2, 0, 6, 3, 7, 3}, {0, 4, 1, 'n', 2, 0, 8, 65535},
      {0, 5, 1, 'p', 2, 0, 9, 6, 10, 1, 11, 2, 12, 3, 13, 4, 14, 5, 15, 65535}, {0, 6, 1, 'f', 2, 0, 8, 0, 20, 4, 21, 48, 22, 16, 23, 2}, {0, 7, 1, 'l', 2, 0, 24, 0}, {0, 5, 1, 'q', 2, 0, 9, 0}, {}};
    for (int node = 0; node < due.length; node++) {
      for (int what = -3; what <= 70; what++) {
        int want = -1;
        for (int i = 0; i < due[node].length; i += 2) {
          want = due[node][i] == what ? due[node][i + 1] : want;
        }
        check.due("node(" + node + ", " + what + ")", x.node(node, what), want);
      }
      check.due("far off", x.node(node, Integer.MAX_VALUE), -1);
      check.due("far off", x.node(node, Integer.MIN_VALUE), -1);
    }
    check.says("a FIELD its VALUE now, without a READ (8)");
    x.store(8, 1);
    int reads = x.count(6);
    int writes = x.count(7);
    check.asked("value now", x, 1, () -> x.node(8, 8));
    check.due("no read", x.count(6), reads);
    check.due("no write", x.count(7), writes);
    check.says("LINE (32), DEPTH (33; both NONE, if it is not ARMED). NONE for others.");
    x.disarm(1);
    check.due("no line", x.node(1, 32), -1);
    check.due("no depth", x.node(1, 33), -1);
    check.due("not armed", x.node(1, 31), 0);
  }

  private static void codesTell() {
    check.says("Byte i of a METHOD's CODE. NONE.");
    int[] code = {22, 7, 0, 1, 255, 254, 3, 2};
    RestBoard x = Check.board(Check.method('m', 3, code), Check.method('n', 0), Check.number('o', 9), Check.pack('p', 1), Check.device('d'));
    for (int i = -2; i <= 70; i++) {
      check.due("byte " + i, x.code(1, i), i >= 0 && i < code.length ? code[i] : -1);
      check.due("byte " + i + " of none", x.code(2, i), -1);
    }
    for (int node : new int[] {-1, 0, 3, 4, 5, 6, 31, 32, Integer.MAX_VALUE, Integer.MIN_VALUE}) {
      check.asked("code(" + node + ", 0)", x, -1, () -> x.code(node, 0));
    }
    check.due("far off", x.code(1, Integer.MAX_VALUE), -1);
    check.due("far off", x.code(1, Integer.MIN_VALUE), -1);
  }

  private static void countsTell() {
    check.says("0 NODES, 1 DEVICES, 2 which REST (0 awake), 3 RESOURCES that are ON, 4 DEVICES that are ARMED, 5 LINES that are RAISED, as bits, 6 READS, 7 WRITES (of all), 8 SELECT, 9 NOTES kept, 10 SWITCHES kept");
    RestBoard x = Check.board(Check.number('j', 0), Check.resource('a', 4, 0), Check.resource('b', 4, 0), Check.device('d', Check.pack('p', 'a'), Check.pack('w', 3, 4, 'b')), Check.device('e'), Check.field('f', 3, 4, 8, 0));
    int[] first = {9, 3, 0, 0, 0, 0, 0, 0, 0, 0, 0, 0, 1, 0};
    for (int what = 0; what <= 13; what++) {
      check.due("count(" + what + ")", x.count(what), first[what]);
    }
    x.power(4, 0);
    x.arm(4);
    x.store(8, 3);
    x.raise(0);
    x.raise(7);
    check.says("13 bytes of the TAPE");
    x.feed(0, 0, 0, 0, 0);
    x.rest(2);
    int[] then = {9, 3, 2, 2, 1, 129, 2, 3, 3, 0, 2, 0, 7, 20};
    for (int what = 0; what <= 13; what++) {
      check.due("then count(" + what + ")", x.count(what), then[what]);
    }
    x.raise(3);
    check.due("awake", x.count(2), 0);
    check.due("a note", x.count(9), 1);
    check.due("lines", x.count(5), 137);
    check.says("how many calls were REFUSED by -1 .. -7. NONE for others.");
    for (int what : new int[] {-1, 21, 22, 100, Integer.MAX_VALUE, Integer.MIN_VALUE}) {
      check.asked("count(" + what + ")", x, -1, () -> x.count(what));
    }
  }

  private static void countsOfRefusals() {
    check.says("14 .. 20 how many calls were REFUSED by -1 .. -7.");
    RestBoard x = Check.board(Check.number('i', 0), Check.method('m', 0, 28, 0, 1), Check.resource('a', 0, 0), Check.device('d', Check.pack('p', 'a'), Check.pack('w', 1, 4)));
    x.power(4, 0);
    x.arm(4);
    IntSupplier[] calls = {() -> x.store(1, -1), () -> x.store(2, 1), () -> x.load(0), () -> x.clear(0), () -> x.rest(1), () -> x.load(0), () -> x.call(2, 0, 0, 0)};
    for (int by = 1; by <= 7; by++) {
      if (by == 3) {
        x.disarm(4);
        x.rest(1);
      }
      for (int times = 1; times <= by; times++) {
        check.due("refused", calls[by - 1].getAsInt(), -by);
        for (int other = 1; other <= 7; other++) {
          check.due("count by -" + other, x.count(13 + other), other < by ? other : other == by ? times : 0);
        }
      }
      if (by == 3) {
        x.undo();
        x.undo();
      }
    }
    x.feed(0, 0, 0, 0, 0);
    x.end(99);
    x.would(0);
    x.would(4);
    x.tries(2, 0, 0, 0, 0);
    x.tries(1, -1, 0, 0, 0);
    for (int by = 1; by <= 7; by++) {
      check.due("others do not count", x.count(13 + by), by);
    }
  }

  private static void statusOfEach() {
    check.says("What the latest call of load, call, store, power, arm, disarm, rest, raise, clear, undo was REFUSED by; 0 if it was not, or ahead of any.");
    check.due("ahead of any", new RestBoard().status(), 0);
    RestBoard x = Check.board(Check.number('i', 0), Check.method('m', 0), Check.device('d', Check.pack('w', 1, 4)));
    IntSupplier[] fine = {() -> Check.load(x, 3, "La"), () -> x.call(2, 0, 0, 0), () -> x.store(1, 0), () -> x.power(3, 0), () -> x.arm(3), () -> x.disarm(3), () -> x.raise(1), () -> x.clear(1),
      () -> x.rest(1), x::undo};
    IntSupplier[] refused = {() -> x.load(99), () -> x.call(99, 0, 0, 0), () -> x.store(99, 0), () -> x.power(99, 0), () -> x.arm(99), () -> x.disarm(99), () -> x.raise(99), () -> x.clear(99), () -> x.rest(99),
      () -> x.load(99)};
    int[] by = {-2, -2, -2, -2, -2, -2, -1, -1, -1, -2};
    for (int i = 0; i < fine.length; i++) {
      check.due("refused " + i, refused[i].getAsInt(), by[i]);
      check.due("status " + i, x.status(), by[i]);
      check.due("fine " + i, fine[i].getAsInt() >= 0 ? 1 : 0, 1);
      check.due("status " + i, x.status(), 0);
    }
    RestBoard y = new RestBoard();
    y.undo();
    check.due("undo", y.status(), -4);
    y.load(0);
    check.due("load", y.status(), -6);
  }

  private static void statusOfQuestions() {
    check.says("What the latest call of load, call, store, power, arm, disarm, rest, raise, clear, undo was REFUSED by");
    RestBoard x = full();
    x.store(1, -1);
    IntSupplier[] questions = {() -> x.end(0), () -> x.end(-1), x::fault, () -> x.node(0, 0), () -> x.node(99, 0), () -> x.code(6, 0), () -> x.lookUp(0, 'a'), () -> x.register(0, 0), () -> x.register(9, 0),
      () -> (int) x.wants(8), () -> (int) x.wants(99), () -> (int) x.wanted(2), x::deepest, () -> x.why(1), () -> x.why(9), () -> x.order(0), () -> x.order(99), () -> x.would(1), () -> x.would(9), () -> x.would(2),
      () -> x.tries(6, 0, 0, 0, 0), () -> x.tries(6, -1, 0, 0, 0), () -> x.tries(99, 0, 0, 0, 0), () -> x.error(0), () -> x.note(0, 0), () -> x.switched(0, 0), () -> x.count(14), x::status};
    for (int i = 0; i < questions.length; i++) {
      int answer = questions[i].getAsInt();
      check.asked("question " + i, x, answer, questions[i]);
      check.due("status", x.status(), -1);
    }
    x.feed(0, 0, 0, 0, 0);
    check.due("feed", x.status(), -1);
  }

  private static void firstInThatOrder() {
    check.says("The first of these in that order.");
    // Each call with all that it can be refused by at once, then with one less at a time.
    RestBoard x = Check.board(Check.number('i', 0), Check.method('m', 0, 28, 0, 1), Check.device('d', Check.pack('w', 1, 4), Check.method('c', 1, 28, 0, 1)));
    check.due("call: -7", x.call(2, 0, 0, 0), -7);
    check.due("power: -7", x.power(3, 0), -7);
    check.refused("power: -4", x, -4, () -> x.power(3, 1));
    check.refused("disarm: -4", x, -4, () -> x.disarm(3));
    check.due("load: -6", x.load(0), -6);
    x.rest(1);
    check.refused("load: -3", x, -3, () -> x.load(0));
    check.refused("load: -2", x, -2, () -> x.load(1));
    check.refused("call: -3", x, -3, () -> x.call(2, 0, 0, 0));
    check.refused("call: -2", x, -2, () -> x.call(1, 0, 0, 0));
    check.refused("call: -1", x, -1, () -> x.call(1, 0, -1, 0));
    check.refused("store: -3", x, -3, () -> x.store(1, 0));
    check.refused("store: -2", x, -2, () -> x.store(2, 0));
    check.refused("store: -1", x, -1, () -> x.store(2, -1));
    check.refused("power: -3", x, -3, () -> x.power(3, 1));
    check.refused("power: -2", x, -2, () -> x.power(0, 1));
    check.refused("power: -1", x, -1, () -> x.power(0, 4));
    check.refused("arm: -3", x, -3, () -> x.arm(3));
    check.refused("arm: -2", x, -2, () -> x.arm(0));
    check.refused("disarm: -3", x, -3, () -> x.disarm(3));
    check.refused("disarm: -2", x, -2, () -> x.disarm(0));
    check.refused("rest: -3", x, -3, () -> x.rest(4));
    check.refused("rest: -1", x, -1, () -> x.rest(5));
    x.raise(5);
    check.refused("raise: -4", x, -4, () -> x.raise(5));
    check.refused("raise: -1", x, -1, () -> x.raise(-1));
    check.refused("clear: -4", x, -4, () -> x.clear(4));
    check.refused("clear: -1", x, -1, () -> x.clear(8));
  }

  /** No call throws or fails to end, whatever the numbers; what is refused changes nothing. */
  private static void anyNumbers() {
    check.says("REFUSED by: -1 a number that can't be; -2 there is no such NODE (of that KIND);");
    int[] any = {Integer.MIN_VALUE, Integer.MIN_VALUE + 1, -65536, -33, -32, -8, -2, -1, 0, 1, 3, 6, 7, 8, 9, 30, 31, 32, 33, 63, 64, 97, 122, 123, 255, 256, 65535, 65536, Integer.MAX_VALUE - 1, Integer.MAX_VALUE};
    for (int state = 0; state < 4; state++) {
      RestBoard x = state == 0 ? new RestBoard() : full();
      if (state >= 2) {
        x.power(8, 0);
        x.arm(8);
      }
      if (state == 3) {
        x.rest(1);
      }
      for (int a : any) {
        x.why(a);
        x.order(a);
        x.would(a);
        x.error(a);
        x.count(a);
        x.wants(a);
        x.wanted(a);
        for (int b : any) {
          x.node(a, b);
          x.code(a, b);
          x.lookUp(a, b);
          x.register(a, b);
          x.note(a, b);
          x.switched(a, b);
          for (int c : any) {
            x.tries(a, b, c, b, 0);
            x.tries(a, 1, b, c, 1);
            x.tries(6, a, b, 0, c);
          }
        }
      }
      for (int a : any) {
        for (int b : any) {
          x.store(a, b);
          x.power(a, b);
          x.call(a, b, 0, 0);
          x.call(a, 0, b, b);
          x.feed(a, b, a, b, a);
        }
        x.end(a);
        x.load(a);
        x.arm(a);
        x.disarm(a);
        x.rest(a);
        x.raise(a);
        x.clear(a);
        x.undo();
        check.due("a status", x.status() >= -7 && x.status() <= 0 ? 1 : 0, 1);
      }
      check.due("it still tells", x.node(0, 0), 1);
    }
  }

  private static void manyCalls() {
    check.says("`NONE = -1`: There is none.");
    check.due("NONE", RestBoard.NONE, -1);
    check.says("An object is used for at most 512 calls after it has been made");
    RestBoard x = Check.board(Check.method('m', 1, 16, 0, 3, 0, Check.block(21, row(2, 0), 26, 2, 0, 16, 0, 7, 1, 2, 0, 0, 1), 22, 0, 9), Check.number('n', 0));
    for (int i = 0; i < 250; i++) {
      check.due("call " + i, x.call(1, 120, 0, 0), 9);
      check.due("store " + i, x.store(2, i + 1), i);
    }
    check.due("kept", x.count(12), 8);
    check.due("undo", x.undo(), 2);
    check.due("value", x.node(2, 8), 249);
  }
}
