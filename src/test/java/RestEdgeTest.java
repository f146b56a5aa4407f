import java.util.Arrays;

/** The edges that 'Terms' IV and promises 11 to 13, 21 to 24 and 27 name: what allows a rest, how it is entered, taken back, left. */
public final class RestEdgeTest {
  private static final Check check = new Check("RestEdgeTest");

  public static void main(String[] args) {
    whatIsThere();
    depths();
    levels();
    linesOfArmed();
    whyFirst();
    deepestOfAll();
    inWhichOrder();
    orderOfMany();
    methodsOnTheWay();
    leastOfARest();
    whichPower();
    nothingIsDone();
    staysOn();
    howManyHaveAnother();
    restsRefused();
    noPowerIsFound();
    noPowerAndNoMethod();
    staysOnAndIsTakenBack();
    aMethodFails();
    eachErrorOfZ();
    takenBackLastFirst();
    takenBackAsTheyWere();
    noMethodsOnTheWayBack();
    raisedTillCleared();
    tiedToIt();
    notesOfALine();
    raisesRefused();
    clearsRefused();
    wakesInTheOtherOrder();
    wakesToThePowerAhead();
    wakesWithWhatItWanted();
    methodsOfWaking();
    errorsOfWaking();
    goesOnResting();
    onPaper();
    stepsOfEachMethod();
    lastNotes();
    check.finish();
  }

  private static int[] row(Object... parts) {
    return Check.bytes(parts);
  }

  /** What would(k) tells changes nothing, and rest(k) tells the same. */
  private static int rest(RestBoard x, int k, int due) {
    check.asked("would(" + k + ")", x, due, () -> x.would(k));
    int got = x.rest(k);
    check.due("rest(" + k + ")", got, due);
    check.due("rest(" + k + "): status", x.status(), Math.min(due, 0));
    check.due("rest(" + k + "): which rest", x.count(2), due < 0 ? 0 : k);
    return got;
  }

  private static void whatIsThere() {
    check.says("REST k is THERE, if the ROOT has a NUMBER i, j, k, l (of REST 1, 2, 3, 4) of its own:");
    for (int letter = 'a'; letter <= 'z'; letter++) {
      RestBoard x = Check.board(Check.number((char) letter, 0));
      for (int k = 1; k <= 4; k++) {
        check.due((char) letter + " for " + k, x.why(k), letter == 'h' + k ? 0 : 1);
      }
      check.due((char) letter + " alone", x.deepest(), letter >= 'i' && letter <= 'l' ? letter - 'h' : 0);
    }
    for (int k = 1; k <= 4; k++) {
      char letter = (char) ('h' + k);
      int[][] others = {Check.resource(letter, 4, 0), Check.method(letter, 0), Check.pack(letter, 0), Check.field(letter, 0, 0, 1, 0), Check.lock(letter), Check.device(letter),
        Check.device('d', Check.number(letter, 0))};
      for (int[] other : others) {
        RestBoard x = Check.board(other);
        check.due("no number of the root's", x.why(k), 1);
        int which = k;
        check.refused("no number of the root's", x, -4, () -> x.rest(which));
      }
    }
    check.says("RESTS 1 .. 4 (0: awake).");
    RestBoard x = new RestBoard();
    check.due("awake", x.count(2), 0);
    check.says("NONE for another k.");
    for (int k : new int[] {0, -1, 5, 6, Integer.MAX_VALUE, Integer.MIN_VALUE}) {
      check.asked("why(" + k + ")", x, -1, () -> x.why(k));
    }
  }

  private static final int[] ALL_FOUR = Check.bytes(Check.number('i', 0), Check.number('j', 0), Check.number('k', 0), Check.number('l', 0));

  private static void depths() {
    check.says("each ARMED DEVICE has DEPTH k or more");
    for (int depth = 1; depth <= 4; depth++) {
      RestBoard x = Check.board(ALL_FOUR, Check.device('d', Check.pack('w', 0, depth)), Check.device('e', Check.pack('w', 1, 4)));
      check.due("not armed", x.deepest(), 4);
      x.arm(5);
      for (int k = 1; k <= 4; k++) {
        check.due("depth " + depth + ", rest " + k, x.why(k), k <= depth ? 0 : 2);
      }
      check.due("deepest", x.deepest(), depth);
      x.arm(7);
      check.due("the other one is deep", x.deepest(), depth);
      if (depth < 4) {
        check.refused("one too deep", x, -4, () -> x.rest(x.deepest() + 1));
      }
      rest(x, depth, 0);
    }
  }

  private static void levels() {
    check.says("all RESOURCES that it had COUNTED when ARMED have LEVEL k or more");
    for (int level = 0; level <= 4; level++) {
      for (int place = 0; place < 4; place++) {
        int[] values = {0, 4, 'b', 'b', 'b', 'b'};
        values[2 + place] = 'a';
        RestBoard x = Check.board(ALL_FOUR, Check.resource('a', level, 0), Check.resource('b', 4, 0), Check.device('d', Check.pack('w', values), Check.method('m', 2, 18, 'w', 3, 0, 3, 1)));
        check.due("not armed", x.deepest(), 4);
        x.arm(7);
        for (int k = 1; k <= 4; k++) {
          check.due("level " + level + ", rest " + k, x.why(k), k <= level ? 0 : 3);
        }
        check.due("deepest", x.deepest(), level);
        x.call(9, 2 + place, 'b', 0);
        check.due("when armed, not now", x.deepest(), level);
      }
    }
    // What a device wants by its power is not what it counted when armed.
    RestBoard x = Check.board(ALL_FOUR, Check.resource('a', 0, 0), Check.device('d', Check.pack('w', 0, 4), Check.pack('p', 'a')));
    x.power(6, 0);
    x.arm(6);
    check.due("by its power", x.deepest(), 4);
  }

  private static void linesOfArmed() {
    check.says("no LINE of one is RAISED");
    for (int line = 0; line <= 7; line++) {
      RestBoard x = Check.board(ALL_FOUR, Check.device('d', Check.pack('w', line, 4)));
      x.raise(line);
      check.due("none is armed", x.why(4), 0);
      x.arm(5);
      check.due("its line", x.why(1), 4);
      check.due("deepest", x.deepest(), 0);
      check.refused("its line", x, -4, () -> x.rest(1));
      x.clear(line);
      check.due("cleared", x.deepest(), 4);
      for (int other = 0; other <= 7; other++) {
        if (other != line) {
          x.raise(other);
        }
      }
      check.due("all others", x.deepest(), 4);
      check.due("as bits", x.count(5), 255 & ~(1 << line));
      rest(x, 4, 0);
    }
  }

  private static void whyFirst() {
    check.says("Why REST k is not ALLOWED: 0 it is, 1 it isn't THERE, 2 a DEPTH, 3 a LEVEL, 4 a LINE is RAISED (the first of these).");
    for (int bits = 0; bits < 16; bits++) {
      for (boolean turned : new boolean[] {false, true}) {
        boolean there = (bits & 1) == 0;
        int[] shallow = Check.device('d', Check.pack('w', 1, (bits & 2) == 0 ? 4 : 1));
        int[] low = Check.device('e', Check.pack('w', 2, 4, (bits & 4) == 0 ? 'b' : 'a'));
        RestBoard x = Check.board(there ? Check.number('j', 0) : row("Lj"), Check.resource('a', 1, 0), Check.resource('b', 4, 0), turned ? row(low, shallow) : row(shallow, low),
            Check.device('f', Check.pack('w', 3, 4)));
        x.arm(4);
        x.arm(6);
        x.arm(8);
        if ((bits & 8) != 0) {
          x.raise(turned ? 3 : 1);
        }
        check.due("why with " + bits, x.why(2), !there ? 1 : (bits & 2) != 0 ? 2 : (bits & 4) != 0 ? 3 : (bits & 8) != 0 ? 4 : 0);
        check.due("deepest with " + bits, x.deepest(), bits == 0 ? 2 : 0);
      }
    }
  }

  private static void deepestOfAll() {
    check.says("The deepest REST that is ALLOWED; 0 without one.");
    for (int bits = 0; bits < 16; bits++) {
      int[] table = row("Lz");
      int deepest = 0;
      for (int k = 1; k <= 4; k++) {
        if ((bits >> k - 1 & 1) != 0) {
          table = row(table, Check.number((char) ('h' + k), 0));
          deepest = k;
        }
      }
      RestBoard x = Check.board(table, Check.device('d', Check.pack('w', 0, 3)));
      check.due("of " + bits, x.deepest(), deepest);
      x.arm(x.lookUp(0, 'd'));
      // Bits 0 to 2 stand for rests 1 to 3.
      check.due("of " + bits + " with a depth of 3", x.deepest(), 32 - Integer.numberOfLeadingZeros(bits & 7));
    }
    check.due("of nothing", new RestBoard().deepest(), 0);
  }

  private static void inWhichOrder() {
    check.says("those with most DEVICES above them first, of like ones falling NODES:");
    check.says("The i-th DEVICE in the order in which they come to REST. NONE.");
    int[] z = Check.method('z', 1, 26, 3, 0);
    RestBoard x = Check.board(Check.number('i', 0), Check.device('a', z, Check.device('b', z), Check.device('c', z, Check.device('d', z))), Check.device('e', z, Check.device('f', z)), Check.device('g', z));
    int[] due = {8, 12, 6, 4, 14, 10, 2};
    for (int i = 0; i < due.length; i++) {
      check.due("order(" + i + ")", x.order(i), due[i]);
    }
    for (int i : new int[] {-1, due.length, 31, 32, Integer.MAX_VALUE, Integer.MIN_VALUE}) {
      check.asked("order(" + i + ")", x, -1, () -> x.order(i));
    }
    rest(x, 1, 0);
    check.due("the root is none of them", x.count(9), due.length);
    for (int i = 0; i < due.length; i++) {
      check.due("their methods", x.note(due.length - 1 - i, 0), due[i]);
    }
    check.due("the root alone", new RestBoard().order(0), -1);
    // A device that comes later below an early one is further in.
    x.undo();
    Check.load(x, 4, Check.device('x'));
    check.due("further in", x.order(0), 16);
    check.due("then the other one", x.order(1), 8);
  }

  private static void orderOfMany() {
    check.says("those with most DEVICES above them first");
    int[] deep = {};
    for (int i = 0; i < 31; i++) {
      deep = Check.device('d', deep);
    }
    RestBoard x = Check.board(deep);
    for (int i = 0; i < 31; i++) {
      check.due("31 in one another, " + i, x.order(i), 31 - i);
    }
    check.due("no more", x.order(31), -1);
    int[] wide = {};
    for (int i = 0; i < 26; i++) {
      wide = row(wide, Check.device((char) ('a' + i)));
    }
    x = Check.board(wide);
    for (int i = 0; i < 26; i++) {
      check.due("26 beside one another, " + i, x.order(i), 26 - i);
    }
    check.due("no more", x.order(26), -1);
  }

  private static void methodsOnTheWay() {
    check.says("its own METHOD z, if it has one with 1 ARG, is run with k;");
    for (int k = 1; k <= 4; k++) {
      RestBoard x = Check.board(ALL_FOUR, Check.resource('a', 4, 0), Check.device('d', Check.pack('p', 'a'), Check.method('z', 1, 26, 3, 0, 26, 9, 'a')));
      x.power(6, 0);
      rest(x, k, 1);
      check.row("with k, ahead of its power", Check.notes(x), 6, 1, 6, k);
    }
    int[][] others = {Check.method('z', 0, 28, 0, 1), Check.method('z', 2, 28, 0, 1), Check.method('z', 3, 28, 0, 1), Check.number('z', 0), Check.lock('z'), {}};
    for (int[] own : others) {
      RestBoard x = Check.board(Check.number('i', 0), Check.method('z', 1, 28, 0, 1), Check.device('d', own));
      rest(x, 1, 0);
      check.due("no error", x.error(0), 0);
    }
    check.says("then it is POWERED (without c):");
    RestBoard x = Check.board(Check.number('i', 0), Check.number('n', 0), Check.device('d', Check.method('c', 1, Check.block(19, row(4, 'n'), 28, 0, 1))));
    x.power(3, 0);
    x.store(2, 1);
    rest(x, 1, 1);
    check.due("no error", x.error(0), 0);
    check.due("no steps", x.count(11), 0);
  }

  private static void leastOfARest() {
    check.says("its VALUE (above 3: 3) is LEAST of that REST.");
    int[] values = {0, 1, 2, 3, 4, 5, 255, 256, 65535};
    for (int k = 1; k <= 4; k++) {
      for (int value : values) {
        int[] numbers = {};
        for (int other = 1; other <= 4; other++) {
          numbers = row(numbers, Check.number((char) ('h' + other), other == k ? value : other % 4));
        }
        RestBoard x = Check.board(numbers, Check.device('d', Check.pack('q'), Check.pack('r'), Check.pack('w', 0, 4)));
        x.power(5, 0);
        x.arm(5);
        rest(x, k, value == 0 ? 0 : 1);
        check.due("rest " + k + ", value " + value, x.node(5, 30), Math.min(value, 3));
      }
    }
    // The value as it is when the power is chosen; a nearer number of that name is not the root's.
    RestBoard x = Check.board(Check.number('i', 1), Check.device('d', Check.number('i', 3), Check.pack('q'), Check.pack('r'), Check.pack('w', 0, 4)));
    x.power(2, 0);
    x.arm(2);
    rest(x, 1, 1);
    check.due("the root's own", x.node(2, 30), 1);
    x.undo();
    x.store(1, 2);
    rest(x, 1, 1);
    check.due("as it is now", x.node(2, 30), 2);
  }

  /** The power that a device is given on the way to rest; -1 without one. */
  private static int chosen(boolean armed, boolean q, boolean r, int[] bounds) {
    int from = armed ? Math.max(bounds[0], Math.min(bounds[1], 3)) : bounds[0];
    int found = -1;
    for (int power = from; power <= bounds[2]; power++) {
      boolean can = power == 0 || power == 3 || power == 1 && q || power == 2 && r;
      if (can && (found == -1 || !armed)) {
        found = power;
      }
    }
    return found;
  }

  private static void whichPower() {
    check.says("ARMED to the least POWER that it CAN have, not below LEAST, not below its POWER, not above that of any DEVICE right below it; not ARMED to the greatest that it CAN have, not below its POWER, not above that of any DEVICE right below it");
    for (int bits = 0; bits < 64; bits++) {
      boolean[] has = new boolean[6];
      for (int i = 0; i < 6; i++) {
        has[i] = (bits >> i & 1) != 0;
      }
      for (int least = 0; least <= 4; least++) {
        for (int powers = 0; powers < 16; powers++) {
          onePair(has, least, powers / 4, powers % 4);
        }
      }
    }
  }

  /** An outer and an inner device: whether each has q, r, is armed. */
  private static void onePair(boolean[] has, int least, int outerPower, int innerPower) {
    boolean can = able(has[0], has[1], outerPower) && able(has[3], has[4], innerPower) && outerPower <= innerPower;
    if (!can) {
      return;
    }
    int[] inner = Check.device('e', has[3] ? Check.pack('q') : row(), has[4] ? Check.pack('r') : row(), Check.pack('w', 2, 4));
    RestBoard x = Check.board(Check.number('i', least), Check.device('d', has[0] ? Check.pack('q') : row(), has[1] ? Check.pack('r') : row(), Check.pack('w', 1, 4), inner));
    int d = x.lookUp(0, 'd');
    int e = x.lookUp(d, 'e');
    if (outerPower != 3) {
      x.power(d, outerPower);
    }
    if (innerPower != 3) {
      x.power(e, innerPower);
    }
    if (has[2]) {
      x.arm(d);
    }
    if (has[5]) {
      x.arm(e);
    }
    int innerDue = chosen(has[5], has[3], has[4], new int[] {innerPower, least, 3});
    int outerDue = chosen(has[2], has[0], has[1], new int[] {outerPower, least, innerDue});
    String what = Arrays.toString(has) + " least " + least + " from " + outerPower + ", " + innerPower;
    int due = outerDue == -1 ? -4 : (outerDue != outerPower ? 1 : 0) + (innerDue != innerPower ? 1 : 0);
    check.due(what + ": would", x.would(1), due);
    check.due(what + ": rest", x.rest(1), due);
    check.due(what + ": outer", x.node(d, 30), outerDue == -1 ? outerPower : outerDue);
    check.due(what + ": inner", x.node(e, 30), outerDue == -1 ? innerPower : innerDue);
    check.due(what + ": which rest", x.count(2), outerDue == -1 ? 0 : 1);
    if (outerDue != -1 && (has[2] || has[5])) {
      check.due(what + ": wakes", x.raise(has[2] ? 1 : 2), 1);
      check.due(what + ": outer is back", x.node(d, 30), outerPower);
      check.due(what + ": inner is back", x.node(e, 30), innerPower);
    }
  }

  private static boolean able(boolean q, boolean r, int power) {
    return power == 0 || power == 3 || power == 1 && q || power == 2 && r;
  }

  private static void nothingIsDone() {
    check.says("(is that the POWER it has, nothing is done)");
    // The package is another by now; as the power stays, what is counted stays, too, there and back.
    for (boolean armed : new boolean[] {false, true}) {
      int[] inner = Check.device('e', Check.pack('w', 3, 4), Check.pack('p', 'b'));
      RestBoard x = Check.board(Check.number('i', 0), Check.resource('a', 4, 0), Check.resource('b', 4, 0), Check.device('d', Check.pack('p', 'a'), Check.pack('w', 2, 4), Check.method('m', 1, 18, 'p', 0, 0, 3, 0), inner));
      x.power(4, 0);
      x.power(8, 0);
      x.arm(8);
      if (armed) {
        x.arm(4);
      }
      x.call(7, 'b', 0, 0);
      int switches = x.count(10);
      rest(x, 1, 0);
      check.due("a", x.node(2, 5), 1);
      check.due("b", x.node(3, 5), 1);
      check.due("wants", x.wants(4), 1 << 2);
      check.due("no switch", x.count(10), switches);
      check.due("wakes", x.raise(3), 1);
      check.due("a", x.node(2, 5), 1);
      check.due("b", x.node(3, 5), 1);
      check.due("no switch", x.count(10), switches);
      check.due("off", x.power(8, 3), 1);
      check.due("off", x.power(4, 3), 1);
      check.due("none on", x.count(3), 0);
    }
  }

  private static void staysOn() {
    check.says("In the end no RESOURCE with a LEVEL below k may be ON.");
    for (int k = 1; k <= 4; k++) {
      for (int level = 0; level <= 4; level++) {
        RestBoard x = Check.board(ALL_FOUR, Check.resource('a', level, 0), Check.device('d', Check.pack('p', 'a'), Check.pack('w', 1, 4)), Check.device('e', Check.pack('p', 'a')));
        x.power(9, 0);
        rest(x, k, 1);
        check.due("off: of no matter", x.node(5, 5), 0);
        x.undo();
        x.power(6, 0);
        x.arm(6);
        check.due("allowed", x.why(k), 0);
        rest(x, k, level < k ? -5 : 1);
        check.due("level " + level + ", rest " + k, x.node(5, 5), level < k ? 2 : 1);
        check.due("the other one's power", x.node(9, 30), level < k ? 0 : 3);
      }
    }
  }

  private static void howManyHaveAnother() {
    check.says("TO REST: how many DEVICES have another POWER by it.");
    int[] devices = {};
    for (int i = 0; i < 8; i++) {
      devices = row(devices, Check.device((char) ('a' + i)));
    }
    for (int many = 0; many <= 8; many++) {
      RestBoard x = Check.board(Check.number('i', 0), devices);
      for (int i = 0; i < many; i++) {
        x.power(2 + i, 0);
      }
      rest(x, 1, many);
    }
    RestBoard x = Check.board(Check.number('i', 0));
    rest(x, 1, 0);
    check.due("told as undone", x.undo(), 6);
    check.due("awake", x.count(2), 0);
  }

  private static void restsRefused() {
    check.says("-1; -3; -4 (it is not ALLOWED; one finds no POWER); -5; -7.");
    RestBoard x = Check.board(Check.number('i', 0), Check.number('k', 0), Check.method('m', 0, 23, 0, 1), Check.device('d', Check.method('z', 1, 28, 0, 1)));
    x.call(3, 0, 0, 0);
    for (int k : new int[] {0, -1, 5, Integer.MAX_VALUE, Integer.MIN_VALUE}) {
      check.refused("rest(" + k + ")", x, -1, () -> x.rest(k));
      check.asked("would(" + k + ")", x, -1, () -> x.would(k));
    }
    check.refused("not there", x, -4, () -> x.rest(2));
    check.asked("not there", x, -4, () -> x.would(2));
    check.refused("not there", x, -4, () -> x.rest(4));
    check.due("what is not allowed is not kept", x.count(12), 2);
    RestBoard y = Check.board(Check.number('i', 0), Check.number('k', 0));
    y.rest(3);
    check.refused("at rest", y, -3, () -> y.rest(1));
    check.refused("at rest, in the same", y, -3, () -> y.rest(3));
    check.refused("-3 ahead of -4", y, -3, () -> y.rest(2));
    check.refused("-1 ahead of -3", y, -1, () -> y.rest(0));
    check.refused("-1 ahead of -3", y, -1, () -> y.rest(5));
    check.asked("would at rest", y, -3, () -> y.would(1));
    check.asked("would at rest, not there", y, -3, () -> y.would(2));
    check.asked("would(5) at rest", y, -1, () -> y.would(5));
    // What is not allowed is refused ahead of all methods.
    check.due("-7", x.rest(1), -7);
    Check.load(x, 4, Check.pack('w', 1, 1));
    x.arm(4);
    x.raise(1);
    check.refused("-4 ahead of -7", x, -4, () -> x.rest(1));
  }

  private static void noPowerIsFound() {
    check.says("one finds no POWER");
    check.says("by -4 behind METHODS (rest(), if it was ALLOWED)");
    RestBoard x = Check.board(Check.number('i', 1), Check.number('n', 0), Check.resource('a', 4, 0), Check.resource('b', 4, 1),
        Check.device('d', Check.pack('w', 1, 4), Check.method('z', 1, 17, 'n', 0, 9, 26, 0, 5), Check.device('e', Check.pack('w', 2, 4), Check.pack('p', 'a'), Check.pack('q', 'b'), Check.method('z', 1, 26, 0, 6))));
    x.power(5, 0);
    x.power(8, 0);
    x.arm(5);
    x.arm(8);
    int kept = x.count(12);
    rest(x, 1, -4);
    check.due("-4s", x.count(17), 1);
    check.due("what was stored stays", x.node(2, 8), 9);
    check.row("notes stay", Check.notes(x), 5, 5, 8, 6);
    check.row("switches stay", Check.switches(x), 4, 0, 3, 1, 3, 0, 4, 1, 3, 1);
    check.due("powered back", x.node(8, 30), 0);
    check.due("wants", x.wants(8), 1 << 3);
    check.due("a", x.node(3, 5), 1);
    check.due("b", x.node(4, 5), 0);
    check.due("steps of the last method", x.count(11), 4);
    check.due("kept", x.count(12), kept + 1);
    check.due("told as undone", x.undo(), 6);
    check.due("what was stored", x.node(2, 8), 0);
    check.due("notes", x.count(9), 0);
    check.due("switches", x.count(10), 1);
    check.due("steps stay", x.count(11), 4);
    check.due("-4s stay", x.count(17), 1);
  }

  private static void noPowerAndNoMethod() {
    check.says("by -4 behind METHODS (rest(), if it was ALLOWED)");
    RestBoard x = Check.board(Check.number('i', 1), Check.method('m', 0, 23, 0, 1), Check.device('d', Check.pack('w', 1, 4), Check.device('e', Check.pack('w', 2, 4), Check.pack('q'))));
    x.power(3, 0);
    x.power(5, 0);
    x.arm(3);
    x.arm(5);
    x.call(2, 0, 0, 0);
    int kept = x.count(12);
    rest(x, 1, -4);
    check.due("it was allowed: kept", x.count(12), kept + 1);
    check.due("it was allowed: no steps", x.count(11), 0);
    check.due("told as undone", x.undo(), 6);
    check.due("then the call", x.undo(), 1);
  }

  private static void staysOnAndIsTakenBack() {
    check.says("-5 a RESOURCE would stay ON;");
    RestBoard x = Check.board(Check.number('j', 0), Check.number('n', 0), Check.resource('a', 1, 0), Check.resource('b', 4, 0), Check.field('f', 2, 0, 8, 0),
        Check.device('d', Check.pack('p', 'a'), Check.pack('w', 1, 4), Check.method('z', 1, 17, 'n', 3, 0, 17, 'f', 0, 9)), Check.device('e', Check.pack('p', 'b'), Check.method('z', 1, 26, 3, 0)));
    x.power(6, 0);
    x.power(10, 0);
    x.arm(6);
    int kept = x.count(12);
    rest(x, 2, -5);
    check.due("-5s", x.count(18), 1);
    check.due("awake", x.count(2), 0);
    check.due("powered back", x.node(10, 30), 0);
    check.due("b", x.node(4, 5), 1);
    check.row("switches stay", Check.switches(x), 4, 1, 4, 0, 4, 1, 3, 1);
    check.due("what was stored stays", x.node(2, 8), 2);
    check.due("registers stay", x.register(2, 0), 9);
    check.due("select stays", x.count(8), 2);
    check.due("writes stay", x.count(7), 2);
    check.row("notes stay", Check.notes(x), 10, 2);
    check.due("steps of the last method", x.count(11), 4);
    check.due("kept", x.count(12), kept + 1);
    check.due("told as undone", x.undo(), 6);
    check.due("what was stored", x.node(2, 8), 0);
    check.due("registers", x.register(2, 0), 0);
    check.due("writes", x.count(7), 0);
    check.due("-5s stay", x.count(18), 1);
  }

  private static void aMethodFails() {
    check.says("If a METHOD fails, one finds no POWER, or that can't be, all DEVICES that were POWERED so are POWERED back, the last one first (what they WANTED is COUNTED, the other uncounted; no METHODS).");
    RestBoard x = Check.board(Check.number('i', 0), Check.number('n', 0), Check.resource('a', 4, 0), "Ll", Check.device('d', Check.pack('p', 'a'), Check.method('z', 1, 24, 'l', 17, 'n', 0, 8, 28, 0, 3)),
        Check.device('e', Check.pack('p', 'a'), Check.method('z', 1, 26, 0, 6)));
    x.power(5, 0);
    x.power(8, 0);
    int kept = x.count(12);
    rest(x, 1, -7);
    check.due("-7s", x.count(20), 1);
    check.row("error", Check.error(x), 8, 3, 7, 6);
    check.due("what was stored stays", x.node(2, 8), 8);
    check.due("what was forgotten stays", x.node(4, 24), 1);
    check.row("notes stay", Check.notes(x), 8, 6);
    check.due("powered back", x.node(8, 30), 0);
    check.due("a", x.node(3, 5), 2);
    check.due("steps of the last method", x.count(11), 5);
    check.due("kept", x.count(12), kept + 1);
    check.due("told as undone", x.undo(), 6);
    check.due("what was forgotten", x.node(4, 24), 0);
    check.due("the error stays", x.error(1), 3);
    check.due("-7s stay", x.count(20), 1);
    // Those behind the one that fails are not come to.
    check.due("notes", x.count(9), 0);
    x.power(8, 3);
    Check.load(x, 0, Check.device('f', Check.method('z', 1, 28, 0, 7)));
    check.due("fails first", x.rest(1), -7);
    check.due("the first one's", x.error(1), 7);
    check.due("no other was run", x.count(9), 0);
  }

  private static void eachErrorOfZ() {
    check.says("If a METHOD fails");
    int[][] codes = {{23, 4, 'x'}, {23, 5, 'z', 0}, {23, 6, 'p', 0, 9}, {23, 7, 3, 0, 1, 0, 0}, {23, 5, 'z', 1, 0, 1}, {21, 0, 1, 0}, {25, 'l'}, {28, 0, 1}};
    for (int i = 0; i < codes.length; i++) {
      RestBoard x = Check.board(Check.number('i', 0), Check.resource('a', 4, 0), "Ll", Check.device('d', Check.pack('p', 'a'), Check.method('z', 1, codes[i])), Check.device('e', Check.pack('p', 'a')));
      x.power(4, 0);
      x.power(7, 0);
      rest(x, 1, -7);
      check.due("error", x.error(0), i + 1);
      check.due("powers", x.node(4, 30) + x.node(7, 30), 0);
      check.due("count", x.node(2, 5), 2);
    }
  }

  private static void takenBackLastFirst() {
    check.says("the last one first");
    int[] resources = row(Check.resource('a', 4, 0), Check.resource('b', 4, 0), Check.resource('c', 4, 0), Check.resource('d', 4, 0));
    RestBoard x = Check.board(Check.number('i', 0), resources, Check.device('s', Check.pack('p', 'a'), Check.device('t', Check.pack('p', 'b'), Check.device('u', Check.pack('p', 'c')))),
        Check.device('v', Check.pack('p', 'd')), Check.device('x', Check.device('y', Check.device('z'))));
    x.power(6, 0);
    x.power(8, 0);
    x.power(10, 0);
    x.power(12, 0);
    int before = x.count(10);
    // The first one that comes to rest behind the four fails: the lowest node right below the root.
    Check.load(x, 6, Check.method('z', 1, 28, 0, 1));
    rest(x, 1, -7);
    check.row("three off, three on the other way round", Arrays.copyOf(Check.switches(x), 2 * (x.count(10) - before)), 4, 1, 3, 1, 5, 1, 5, 0, 3, 0, 4, 0);
    for (int device : new int[] {6, 8, 10, 12}) {
      check.due("power of " + device, x.node(device, 30), 0);
    }
    check.due("those that were off", x.node(14, 30) + x.node(15, 30) + x.node(16, 30), 9);
    check.due("all on", x.count(3), 4);
  }

  private static void takenBackAsTheyWere() {
    check.says("what they WANTED is COUNTED, the other uncounted; no METHODS");
    // On the way the packages become others; back comes what was wanted ahead of it.
    RestBoard x = Check.board(Check.number('i', 1), Check.resource('a', 4, 0), Check.resource('b', 4, 0), Check.resource('c', 4, 0), Check.device('d', Check.method('z', 1, 28, 0, 1)),
        Check.device('e', Check.pack('w', 1, 4), Check.pack('p', 'a', 'a', 'a', 'a', 'a', 'b'), Check.pack('q', 'c'), Check.method('z', 1, 18, 'p', 0, 0, 0, 'c', 18, 'q', 0, 0, 0, 'b')));
    x.power(7, 0);
    x.arm(7);
    rest(x, 1, -7);
    check.due("five of a", x.node(2, 5), 5);
    check.due("one of b", x.node(3, 5), 1);
    check.due("none of c", x.node(4, 5), 0);
    check.due("wants", x.wants(7), 1 << 2 | 1 << 3);
    check.due("packages stay as they came", x.node(9, 10), 'c');
    check.due("off", x.power(7, 3), 2);
    check.due("none on", x.count(3), 0);
  }

  private static void noMethodsOnTheWayBack() {
    check.says("the other uncounted; no METHODS");
    RestBoard x = Check.board(Check.number('i', 0), Check.device('d', Check.method('z', 1, 28, 0, 1)), Check.device('e', Check.method('z', 1, 26, 0, 1), Check.method('y', 1, 26, 0, 2), Check.method('c', 1, 26, 0, 3)));
    x.power(4, 0);
    check.due("c by power()", x.count(9), 1);
    rest(x, 1, -7);
    check.row("z alone on the way there, none back", Check.notes(x), 4, 1, 4, 3);
  }

  private static void raisedTillCleared() {
    check.says("TO RAISE a LINE: it is RAISED till it's cleared.");
    RestBoard x = Check.board(Check.number('i', 0), Check.device('d', Check.pack('w', 2, 4)));
    check.due("none at first", x.count(5), 0);
    for (int line = 0; line <= 7; line++) {
      check.due("raise", x.raise(line), 0);
      check.due("as bits", x.count(5), (2 << line) - 1);
    }
    for (int line = 0; line <= 7; line++) {
      check.due("clear", x.clear(line), 0);
      check.due("as bits", x.count(5), 255 & -(2 << line));
    }
    x.arm(2);
    x.rest(1);
    check.due("wakes", x.raise(2), 1);
    check.due("still raised", x.count(5), 4);
    check.due("awake", x.count(2), 0);
    check.refused("not to rest", x, -4, () -> x.rest(1));
    check.due("disarmed", x.disarm(2), 0);
    check.due("still raised", x.count(5), 4);
    rest(x, 1, 0);
    check.due("cleared at rest", x.clear(2), 0);
    check.due("none", x.count(5), 0);
    check.due("it rests on", x.count(2), 1);
    check.due("told as undone", x.undo(), 8);
    check.due("raised", x.count(5), 4);
  }

  private static void tiedToIt() {
    check.says("TO RAISE a LINE: how many DEVICES are tied to it.");
    check.says("Is an ARMED DEVICE tied to it (its LINE):");
    RestBoard x = Check.board(Check.number('i', 0), Check.device('a', Check.pack('w', 5, 4)), Check.device('b', Check.pack('w', 5, 4)), Check.device('c', Check.pack('w', 4, 4)), Check.device('d', Check.pack('w', 5, 4)));
    check.due("none is armed", x.raise(5), 0);
    check.due("no note", x.count(9), 0);
    x.clear(5);
    x.arm(2);
    x.arm(6);
    check.due("one", x.raise(5), 1);
    x.clear(5);
    x.arm(8);
    x.arm(4);
    check.due("three", x.raise(5), 3);
    check.due("another", x.raise(4), 1);
    check.due("none", x.raise(6), 0);
    check.row("a note of each", Check.notes(x), 6, 1004, 8, 1005, 4, 1005, 2, 1005, 2, 1005);
    x.clear(5);
    x.disarm(2);
    check.due("no more tied", x.raise(5), 2);
  }

  private static void notesOfALine() {
    check.says("Then a NOTE of each such DEVICE, by rising NODES, of 1,000 and the LINE.");
    for (int line = 0; line <= 7; line++) {
      RestBoard x = Check.board(Check.number('i', 0), Check.device('a', Check.pack('w', line, 4), Check.device('b', Check.pack('w', line, 4), Check.method('y', 1, 26, 0, 5))), Check.device('c', Check.pack('w', line, 4)));
      x.arm(7);
      x.arm(4);
      x.arm(2);
      check.due("awake", x.raise(line), 3);
      check.row("awake", Check.notes(x), 7, 1000 + line, 4, 1000 + line, 2, 1000 + line);
      x.undo();
      x.rest(1);
      check.due("at rest", x.raise(line), 3);
      check.row("at rest: behind what waking notes", Check.notes(x), 7, 1000 + line, 4, 1000 + line, 2, 1000 + line, 4, 5);
    }
  }

  private static void raisesRefused() {
    check.says("-1; -4 (it is RAISED).");
    RestBoard x = Check.board(Check.number('i', 0), Check.method('m', 0, 23, 0, 1), Check.device('d', Check.pack('w', 7, 4)));
    x.arm(3);
    x.call(2, 0, 0, 0);
    for (int line : new int[] {-1, 8, 9, 31, 32, 33, Integer.MAX_VALUE, Integer.MIN_VALUE}) {
      check.refused("raise(" + line + ")", x, -1, () -> x.raise(line));
    }
    x.rest(1);
    check.refused("-1 at rest", x, -1, () -> x.raise(8));
    check.due("at rest it is not refused", x.raise(0), 0);
    check.due("status", x.status(), 0);
    check.refused("it is raised", x, -4, () -> x.raise(0));
    check.due("told as undone", x.undo(), 7);
    x.undo();
    check.due("line 7", x.raise(7), 1);
    check.refused("it is raised", x, -4, () -> x.raise(7));
    check.due("one note", x.count(9), 1);
  }

  private static void clearsRefused() {
    check.says("A LINE is cleared: 0. -1; -4 (it is not RAISED).");
    RestBoard x = Check.board(Check.number('i', 0));
    for (int line : new int[] {-1, 8, 9, 31, 32, 33, Integer.MAX_VALUE, Integer.MIN_VALUE}) {
      check.refused("clear(" + line + ")", x, -1, () -> x.clear(line));
    }
    for (int line = 0; line <= 7; line++) {
      int which = line;
      check.refused("not raised", x, -4, () -> x.clear(which));
    }
    x.raise(7);
    check.refused("another is not raised", x, -4, () -> x.clear(6));
    x.rest(1);
    check.refused("-4 at rest", x, -4, () -> x.clear(0));
    check.due("at rest", x.clear(7), 0);
    check.due("status", x.status(), 0);
    check.refused("not any more", x, -4, () -> x.clear(7));
  }

  private static void wakesInTheOtherOrder() {
    check.says("DEVICES in the other order:");
    int[] y = Check.method('y', 1, 26, 3, 0);
    RestBoard x = Check.board(Check.number('i', 0), Check.number('k', 0), Check.device('a', y, Check.device('b', y), Check.device('c', y, Check.device('d', y))), Check.device('e', y, Check.device('f', y)),
        Check.device('g', y, Check.pack('w', 0, 4)));
    for (int device : new int[] {3, 5, 7, 9, 11, 13, 15}) {
      x.power(device, 0);
    }
    x.arm(15);
    rest(x, 3, 6);
    check.due("wakes", x.raise(0), 1);
    check.row("with k", Check.notes(x), 15, 1000, 9, 3, 13, 3, 7, 3, 5, 3, 15, 3, 11, 3, 3, 3);
    // The latest note but that of the line is of the device that rests first.
    for (int i = 0; i < 7; i++) {
      check.due("the order to rest", x.order(i), x.note(1 + i, 0));
    }
  }

  private static void wakesToThePowerAhead() {
    check.says("each that has another POWER than ahead of the REST is POWERED to that (without c; what it WANTED then is COUNTED)");
    RestBoard x = Check.board(Check.number('i', 2), Check.resource('a', 4, 5), Check.resource('b', 4, 1), Check.device('d', Check.pack('p', 'a'), Check.pack('q', 'b'), Check.pack('r', 'a'), Check.pack('w', 1, 4), Check.method('c', 1, 26, 3, 0),
        Check.device('e', Check.pack('p', 'b'))), Check.device('f'));
    x.power(4, 1);
    x.power(10, 3);
    x.arm(4);
    check.due("c by power()", x.count(9), 1);
    rest(x, 1, 1);
    check.due("at rest", x.node(4, 30), 2);
    check.due("a", x.node(2, 5), 1);
    check.due("b", x.node(3, 5), 0);
    int switches = x.count(10);
    check.due("wakes", x.raise(1), 1);
    check.due("power", x.node(4, 30), 1);
    check.due("a", x.node(2, 5), 0);
    check.due("b", x.node(3, 5), 1);
    check.row("on, then off", Arrays.copyOf(Check.switches(x), 2 * (x.count(10) - switches)), 2, 0, 3, 1);
    check.row("no c", Check.notes(x), 4, 1001, 4, 1);
    check.due("those that had the same", x.node(10, 30) + x.node(12, 30), 6);
    check.due("no steps", x.count(11), 0);
    check.due("told as undone", x.undo(), 7);
    check.due("at rest", x.node(4, 30), 2);
    check.due("which", x.count(2), 1);
    check.due("wakes again", x.raise(1), 1);
    check.due("power", x.node(4, 30), 1);
  }

  private static void wakesWithWhatItWanted() {
    check.says("what it WANTED then is COUNTED");
    // On the way to rest and on the way out both packages become others.
    RestBoard x = Check.board(Check.number('i', 1), Check.resource('a', 4, 0), Check.resource('b', 4, 0), Check.resource('c', 4, 0),
        Check.device('d', Check.pack('w', 0, 4), Check.pack('p', 'a', 'a', 'b', 'b', 'b', 'b'), Check.pack('q', 'c'), Check.method('z', 1, 18, 'p', 0, 0, 0, 0, 18, 'q', 0, 0, 0, 'b')));
    x.power(5, 0);
    x.arm(5);
    rest(x, 1, 1);
    check.due("by what q is now", x.wants(5), 1 << 3);
    check.due("b", x.node(3, 5), 1);
    check.due("wakes", x.raise(0), 1);
    check.due("a", x.node(2, 5), 2);
    check.due("b", x.node(3, 5), 4);
    check.due("c", x.node(4, 5), 0);
    check.due("p can't be had by now", x.node(7, 10), 0);
    check.due("power", x.node(5, 30), 0);
    check.due("off", x.power(5, 3), 2);
    check.due("none on", x.count(3), 0);
  }

  private static void methodsOfWaking() {
    check.says("then its own METHOD y, if it has one with 1 ARG, is run with k");
    for (int k = 1; k <= 4; k++) {
      RestBoard x = Check.board(ALL_FOUR, Check.resource('a', 4, 0), Check.device('d', Check.pack('p', 'a'), Check.method('y', 1, 26, 3, 0, 26, 9, 'a')), Check.device('e', Check.pack('w', 6, 4)));
      x.power(6, 0);
      x.arm(9);
      rest(x, k, 1);
      check.due("wakes", x.raise(6), 1);
      check.row("with k, behind its power", Check.notes(x), 9, 1006, 6, 1, 6, k);
      check.due("steps", x.count(11), 4);
    }
    int[][] others = {Check.method('y', 0, 28, 0, 1), Check.method('y', 2, 28, 0, 1), Check.method('y', 3, 28, 0, 1), Check.number('y', 0), Check.lock('y'), {}};
    for (int[] own : others) {
      RestBoard x = Check.board(Check.number('i', 0), Check.method('y', 1, 28, 0, 1), Check.device('d', Check.pack('w', 0, 1), own), Check.device('e', own));
      x.power(x.lookUp(0, 'e'), 0);
      x.arm(3);
      rest(x, 1, 1);
      check.due("wakes", x.raise(0), 1);
      check.due("no error", x.error(0), 0);
      check.due("no steps", x.count(11), 0);
      check.due("the note alone", x.count(9), 1);
    }
  }

  private static void errorsOfWaking() {
    check.says("(an ERROR is told, it goes on)");
    int[] bad = {26, 0, 1, 28, 3, 0};
    RestBoard x = Check.board(Check.number('j', 0), Check.resource('a', 4, 0), Check.device('d', Check.pack('p', 'a'), Check.method('y', 1, bad)), Check.device('e', Check.pack('p', 'a'), Check.method('y', 1, bad)),
        Check.device('f', Check.pack('p', 'a'), Check.method('y', 1, 26, 0, 2), Check.pack('w', 0, 4)), Check.device('g', Check.pack('p', 'a'), Check.method('y', 1, 26, 0, 3)));
    for (int device : new int[] {3, 6, 9, 13}) {
      x.power(device, 0);
    }
    x.arm(9);
    rest(x, 2, 3);
    check.due("not refused", x.raise(0), 1);
    check.due("status", x.status(), 0);
    check.due("no -7", x.count(20), 0);
    check.due("awake", x.count(2), 0);
    check.row("the latest error", Check.error(x), 8, 2, 8, 3);
    check.row("all were run", Check.notes(x), 9, 1000, 13, 3, 9, 2, 6, 1, 3, 1);
    for (int device : new int[] {3, 6, 9, 13}) {
      check.due("powers stay as they became", x.node(device, 30), 0);
    }
    check.due("a", x.node(2, 5), 4);
    check.due("steps of the last method", x.count(11), 2);
    // If the last one fails, its steps are told.
    x = Check.board(Check.number('i', 0), Check.device('d', Check.pack('w', 0, 1), Check.method('y', 1, 21, 0, 1, 0)));
    x.power(2, 0);
    x.arm(2);
    rest(x, 1, 0);
    check.due("not refused", x.raise(0), 1);
    check.due("error", x.error(0), 6);
    check.due("steps", x.count(11), 1000);
  }

  private static void goesOnResting() {
    check.says("Is an ARMED DEVICE tied to it (its LINE): if the board rests in k, it wakes:");
    RestBoard x = Check.board(Check.number('i', 0), Check.device('d', Check.pack('w', 3, 4), Check.method('y', 1, 26, 0, 9)), Check.device('e', Check.pack('w', 4, 4)));
    x.power(2, 0);
    x.arm(2);
    rest(x, 1, 0);
    for (int line = 0; line <= 7; line++) {
      if (line != 3) {
        check.due("not its line", x.raise(line), 0);
        check.due("it rests on", x.count(2), 1);
      }
    }
    check.due("no note", x.count(9), 0);
    check.due("its line", x.raise(3), 1);
    check.due("awake", x.count(2), 0);
    check.row("notes", Check.notes(x), 2, 1003, 2, 9);
    x.clear(3);
    check.due("awake: its line again", x.raise(3), 1);
    check.row("awake: no y", Check.notes(x), 2, 1003, 2, 1003, 2, 9);
    check.due("no steps", x.count(11), 0);
  }

  private static void onPaper() {
    check.says("On paper: what rest(k) would tell.");
    RestBoard x = Check.board(ALL_FOUR, Check.resource('a', 2, 0), Check.number('n', 0), "Lo", Check.field('f', 1, 0, 8, 0), Check.device('d', Check.pack('p', 'a'), Check.pack('w', 0, 4), Check.method('z', 1, 24, 'o', 17, 'f', 3, 0, 17, 'n', 3, 0,
        26, 3, 0, Check.block(19, row(7, 9, 3, 0, 0, 4), 28, 0, 9))));
    x.power(9, 0);
    x.arm(9);
    for (int k = 1; k <= 4; k++) {
      int[] due = {0, 0, 0, -5, -7};
      int which = k;
      check.asked("would(" + k + ")", x, due[k], () -> x.would(which));
      check.asked("and again", x, due[k], () -> x.would(which));
    }
    check.due("no error is told", x.error(0), 0);
    check.due("rest", x.rest(4), -7);
    check.asked("behind that", x, -5, () -> x.would(3));
    check.due("the error stays", x.error(1), 9);
    check.due("the steps stay", x.count(11), 13);
    x.disarm(9);
    check.asked("off", x, 1, () -> x.would(3));
  }

  private static void stepsOfEachMethod() {
    check.says("11 STEPS of the latest call(), rest(), power(), raise() that was not REFUSED ahead of all METHODS (of the METHOD that it ran last; 0, if none ran)");
    // 996 steps each, by each of two devices, there and back.
    int[] turns = row(16, 0, 1, 0, 198, Check.block(21, row(2, 0), 16, 0, 7, 1, 2, 0, 0, 1), 22, 0, 1);
    RestBoard x = Check.board(Check.number('i', 0), Check.device('d', Check.method('z', 1, turns), Check.method('y', 1, turns), Check.pack('w', 0, 1)), Check.device('e', Check.method('z', 1, turns), Check.method('y', 1, turns)));
    x.power(2, 0);
    x.power(6, 0);
    x.arm(2);
    rest(x, 1, 1);
    check.due("of the last method alone", x.count(11), 996);
    check.due("no error", x.error(0), 0);
    check.due("wakes", x.raise(0), 1);
    check.due("of the last method alone", x.count(11), 996);
    check.due("no error", x.error(0), 0);
    x = Check.board(Check.number('i', 0), Check.device('d', Check.method('z', 1, 23, 0, 1)), Check.device('e', Check.method('z', 1, 23, 8, 0, 1)), Check.device('f'));
    rest(x, 1, 0);
    check.due("the last that ran", x.count(11), 2);
  }

  private static void lastNotes() {
    check.says("NOTES: a DEVICE, a number; the last 16 are kept.");
    RestBoard x = Check.board(Check.method('m', 1, 26, 3, 0), Check.device('d', Check.method('m', 1, 26, 3, 0)));
    for (int i = 0; i < 36; i++) {
      x.call(i % 2 == 0 ? 1 : 3, 65535 - i, 0, 0);
      check.due("kept", x.count(9), Math.min(i + 1, 16));
      for (int ago = 0; ago < 20; ago++) {
        boolean kept = ago < 16 && ago <= i;
        check.due("device", x.note(ago, 0), !kept ? -1 : (i - ago) % 2 == 0 ? 0 : 2);
        check.due("number", x.note(ago, 1), kept ? 65535 - i + ago : -1);
      }
    }
    check.says("Of the NOTE so many ago (0 the latest) the DEVICE (what 0), the number (1). NONE.");
    for (int[] none : new int[][] {{-1, 0}, {16, 0}, {0, 2}, {0, -1}, {15, 2}, {Integer.MAX_VALUE, 0}, {Integer.MIN_VALUE, 1}, {0, Integer.MAX_VALUE}, {0, Integer.MIN_VALUE}}) {
      check.asked("none", x, -1, () -> x.note(none[0], none[1]));
    }
    check.due("none at first", new RestBoard().note(0, 0), -1);
    // One call can make more notes than are kept.
    RestBoard y = Check.board(Check.method('m', 1, 16, 0, 3, 0, Check.block(21, row(2, 0), 26, 2, 0, 16, 0, 7, 1, 2, 0, 0, 1)));
    y.call(1, 40, 0, 0);
    check.due("the latest", y.note(0, 1), 1);
    check.due("the oldest", y.note(15, 1), 16);
    check.due("no more", y.note(16, 1), -1);
  }
}
