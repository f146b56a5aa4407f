import java.util.ArrayList;
import java.util.Arrays;
import java.util.List;

/** The edges that 'Terms' III and promises 8 to 10, 19, 20 and 28 name: counts, switches, powers, what is armed. */
public final class PowerEdgeTest {
  private static final Check check = new Check("PowerEdgeTest");

  public static void main(String[] args) {
    countsAndOn();
    switchedInOrder();
    switchedOnce();
    powerAtFirst();
    notBelowItsParent();
    whatItWants();
    whatItCan();
    valuesThatAreNoNames();
    itsOwnPackage();
    otherPackages();
    newOnesFirst();
    runsItsMethod();
    methodsThatAreNone();
    takenBack();
    takenBackAsItWas();
    takenBackByEachError();
    powersRefused();
    howManySwitches();
    linesAndDepths();
    namesOfTies();
    asTheyAreNow();
    tillItIsDisarmed();
    othersStayArmed();
    armsRefused();
    disarmsRefused();
    wanting();
    wantedBy();
    lastSwitches();
    check.finish();
  }

  private static int[] row(Object... parts) {
    return Check.bytes(parts);
  }

  private static void countsAndOn() {
    check.says("A RESOURCE has a COUNT (0 at first), is ON, if that is above 0.");
    RestBoard x = Check.board(Check.resource('a', 0, 0), Check.method('m', 0, 22, 9, 'a'), Check.device('d', Check.pack('p', 'a', 'a', 'a', 'a', 'a', 'a'), Check.pack('q', 'a')),
        Check.device('e', Check.pack('p', 'a', 'a', 'a', 'a', 'a', 'a')), Check.device('f', Check.pack('w', 0, 1, 'a', 'a', 'a', 'a')));
    check.due("at first", x.node(1, 5), 0);
    check.due("off", x.call(2, 0, 0, 0), 0);
    check.due("none on", x.count(3), 0);
    check.due("one switch", x.power(3, 0), 1);
    check.due("six", x.node(1, 5), 6);
    check.due("on", x.call(2, 0, 0, 0), 1);
    check.due("one on", x.count(3), 1);
    check.due("no switch", x.power(6, 0), 0);
    check.due("line", x.arm(8), 0);
    check.due("sixteen", x.node(1, 5), 16);
    check.due("no switch", x.power(3, 1), 0);
    check.due("eleven", x.node(1, 5), 11);
    check.due("no switch", x.power(6, 3), 0);
    check.due("five", x.node(1, 5), 5);
    check.due("none off", x.disarm(8), 0);
    check.due("one", x.node(1, 5), 1);
    check.due("still on", x.call(2, 0, 0, 0), 1);
    check.due("one switch", x.power(3, 3), 1);
    check.due("none", x.node(1, 5), 0);
    check.due("off", x.call(2, 0, 0, 0), 0);
    check.due("none on", x.count(3), 0);
    check.row("two switches in all", Check.switches(x), 1, 0, 1, 1);
  }

  private static void permutations(List<Integer> row, int from, List<int[]> all) {
    if (from == row.size()) {
      int[] one = new int[row.size()];
      for (int i = 0; i < one.length; i++) {
        one[i] = row.get(i);
      }
      all.add(one);
    }
    for (int i = from; i < row.size(); i++) {
      java.util.Collections.swap(row, from, i);
      permutations(row, from + 1, all);
      java.util.Collections.swap(row, from, i);
    }
  }

  private static void switchedInOrder() {
    check.says("To COUNT some: those that are 0 are switched ON by rising ORDER, of like ones by rising NODES (each a SWITCH); to uncount: those that become 0 OFF by falling ORDER, falling NODES.");
    int[] resources = row(Check.resource('a', 0, 5), Check.resource('b', 0, 9), Check.resource('c', 0, 0), Check.resource('d', 0, 5), Check.resource('e', 0, 0), Check.resource('f', 0, 9));
    // By order and node: c, e, a, d, b, f.
    int[] rising = {3, 5, 1, 4, 2, 6};
    List<int[]> all = new ArrayList<>();
    permutations(new ArrayList<>(List.of((int) 'a', (int) 'b', (int) 'c', (int) 'd', (int) 'e', (int) 'f')), 0, all);
    check.due("ways to name six", all.size(), 720);
    for (int[] names : all) {
      RestBoard x = Check.board(resources, Check.device('x', Check.pack('p', names)));
      check.due("on", x.power(7, 0), 6);
      check.due("off", x.power(7, 3), 6);
      int[] due = new int[24];
      for (int i = 0; i < 6; i++) {
        due[2 * i] = rising[i];
        due[22 - 2 * i] = rising[i];
        due[22 - 2 * i + 1] = 1;
      }
      check.row("switches", Check.switches(x), due);
    }
    RestBoard x = Check.board(resources, Check.device('x', Check.pack('w', 3, 1, 'f', 'e', 'a', 'c')));
    x.arm(7);
    check.row("armed", Check.switches(x), 6, 1, 1, 1, 5, 1, 3, 1);
    check.due("disarmed", x.disarm(7), 4);
    check.row("disarmed", Arrays.copyOf(Check.switches(x), 8), 3, 0, 5, 0, 1, 0, 6, 0);
  }

  private static void switchedOnce() {
    check.says("those that are 0 are switched ON");
    RestBoard x = Check.board(Check.resource('a', 0, 1), Check.resource('b', 0, 0), Check.device('d', Check.pack('p', 'a', 'b', 'a', 'b', 'a')), Check.device('e', Check.pack('p', 'b')));
    x.power(5, 0);
    check.due("only the one that was off", x.power(3, 0), 1);
    check.due("counted three times", x.node(1, 5), 3);
    check.due("counted twice more", x.node(2, 5), 3);
    check.due("only the one that becomes 0", x.power(3, 3), 1);
    check.due("none", x.node(1, 5), 0);
    check.due("one", x.node(2, 5), 1);
    check.row("switches", Check.switches(x), 1, 0, 1, 1, 2, 1);
  }

  private static void powerAtFirst() {
    check.says("A DEVICE (not the ROOT) has a POWER 0 .. 3 (3 at first; the ROOT 0 always), never below its PARENT's.");
    RestBoard x = Check.board(Check.device('d', Check.device('e')), Check.pack('q'), Check.pack('r'));
    check.due("the root", x.node(0, 30), 0);
    check.due("outer", x.node(1, 30), 3);
    check.due("inner", x.node(2, 30), 3);
    for (int power = 0; power <= 3; power++) {
      int which = power;
      check.refused("the root has 0 always", x, -2, () -> x.power(0, which));
    }
    x.power(1, 0);
    Check.load(x, 1, Check.device('f'));
    check.due("one that comes later", x.node(5, 30), 3);
    check.due("no power of others", x.node(3, 30), -1);
  }

  private static final int[] ABLE = Check.bytes(Check.pack('p'), Check.pack('q'), Check.pack('r'));

  private static void notBelowItsParent() {
    check.says("below its PARENT's POWER, above that of one right below it");
    for (int outer = 0; outer <= 3; outer++) {
      for (int inner = outer; inner <= 3; inner++) {
        for (int other = outer; other <= 3; other++) {
          for (int power = 0; power <= 3; power++) {
            RestBoard x = Check.board(Check.device('d', ABLE, Check.device('e', ABLE), Check.device('f', ABLE)));
            set(x, 1, outer);
            set(x, 5, inner);
            set(x, 9, other);
            String what = outer + " with " + inner + " and " + other + " in it";
            boolean fits = power != outer && power <= inner && power <= other;
            check.due(what + " to " + power, x.power(1, power), fits ? 0 : -4);
            check.due(what + " has", x.node(1, 30), fits ? power : outer);
            if (fits) {
              x.undo();
            }
            boolean innerFits = power != inner && power >= outer;
            check.due(what + ", the first to " + power, x.power(5, power), innerFits ? 0 : -4);
            check.due(what + ", the first has", x.node(5, 30), innerFits ? power : inner);
            check.due(what + ", the other has", x.node(9, 30), other);
          }
        }
      }
    }
    // Only those right below it count, not those further in or its parent's others.
    RestBoard x = Check.board(Check.device('d', ABLE, Check.device('e', ABLE, Check.device('f', ABLE))), Check.device('g', ABLE));
    set(x, 13, 0);
    check.due("one beside it does not count", x.power(1, 2), 0);
    check.due("inner", x.power(5, 2), 0);
    check.due("innermost below its parent's", x.power(9, 1), -4);
    check.due("innermost", x.power(9, 2), 0);
    check.due("inner above the innermost's", x.power(5, 3), -4);
  }

  private static void set(RestBoard x, int device, int power) {
    if (x.node(device, 30) != power) {
      check.due("set", x.power(device, power) >= 0 ? 1 : 0, 1);
    }
  }

  private static void whatItWants() {
    check.says("It WANTS by POWER 0, 1, 2 the RESOURCES the NAMES of which (LOOKED UP from it) are VALUES of its own PACKAGE p, q, r (as often as they are); by 3, or 0 without p: none.");
    RestBoard x = Check.board(Check.resource('a', 0, 0), Check.resource('b', 0, 0), Check.resource('c', 0, 0),
        Check.device('d', Check.pack('p', 'a'), Check.pack('q', 'b', 'b'), Check.pack('r', 'c', 'a', 'c', 'c')), Check.device('e'), Check.device('f', Check.pack('p')));
    int[][] due = {{1, 0, 0}, {0, 2, 0}, {1, 0, 3}, {0, 0, 0}};
    for (int power = 0; power <= 3; power++) {
      set(x, 4, power);
      for (int i = 0; i < 3; i++) {
        check.due("power " + power + ", count of " + (char) ('a' + i), x.node(1 + i, 5), due[power][i]);
        check.due("power " + power + ", wants " + (char) ('a' + i), x.wants(4) >> 1 + i & 1, due[power][i] > 0 ? 1 : 0);
      }
    }
    check.due("0 without p", x.power(8, 0), 0);
    check.due("none", x.wants(8), 0);
    check.due("0 with an empty p", x.power(9, 0), 0);
    check.due("none", x.wants(9), 0);
    // The nearest of that name, from the device on.
    x = Check.board(Check.resource('a', 0, 0), Check.device('d', Check.pack('p', 'a'), Check.device('e', Check.resource('a', 0, 0), Check.pack('p', 'a'),
        Check.device('f', Check.pack('p', 'a')))));
    x.power(2, 0);
    x.power(4, 0);
    x.power(7, 0);
    check.due("the root's", x.wants(2), 1 << 1);
    check.due("its own", x.wants(4), 1 << 5);
    check.due("its parent's", x.wants(7), 1 << 5);
  }

  private static void whatItCan() {
    check.says("It CAN have 0 and 3, 1 with a PACKAGE q, 2 with r, but not, if a VALUE there is no NAME of a RESOURCE.");
    String letters = "pqr";
    for (int power = 0; power <= 2; power++) {
      char own = letters.charAt(power);
      RestBoard x = Check.board(Check.device('d'));
      check.due(power + " without " + own, x.power(1, power), power == 0 ? 0 : -4);
      x = Check.board(Check.device('d', Check.pack(own)));
      check.due(power + " with an empty " + own, x.power(1, power), 0);
      for (int other = 1; other <= 2; other++) {
        if (other != power) {
          check.due(other + " with " + own + " alone", x.power(1, other), -4);
        }
      }
      check.due("3", x.node(1, 30) == 3 ? 0 : x.power(1, 3), 0);
      int[][] others = {Check.resource(own, 0, 0), Check.method(own, 0), Check.number(own, 1), Check.field(own, 0, 0, 1, 0), Check.lock(own), Check.device(own)};
      for (int[] definition : others) {
        x = Check.board(Check.device('d', definition));
        check.due(power + ", " + own + " is no package", x.power(1, power), power == 0 ? 0 : -4);
        check.due("wants none", x.wants(1), 0);
      }
    }
  }

  private static void valuesThatAreNoNames() {
    check.says("but not, if a VALUE there is no NAME of a RESOURCE.");
    int[] wrong = {0, 1, 96, 123, 255, 256, 'a' + 256, 'A', 'x', 65535, 'd', 'm', 'n', 'k', 'f', 'l', 's'};
    int[] before = row(Check.resource('a', 0, 0), Check.method('m', 0), Check.number('n', 'a'), Check.pack('k', 'a'), Check.field('f', 0, 0, 1, 0), "Ll", Check.device('o', Check.resource('s', 0, 0)));
    for (int power = 0; power <= 2; power++) {
      for (int value : wrong) {
        for (int place = 0; place < 6; place++) {
          int[] values = {'a', 'a', 'a', 'a', 'a', 'a'};
          values[place] = value;
          RestBoard x = Check.board(before, Check.device('d', Check.pack("pqr".charAt(power), values)));
          int which = power;
          if (place == 5 || place == 0) {
            check.refused(value + " at " + place + " for " + power, x, -4, () -> x.power(9, which));
          } else {
            check.due(value + " at " + place + " for " + power, x.power(9, which), -4);
          }
        }
      }
      RestBoard x = Check.board(before, Check.device('d', Check.pack("pqr".charAt(power), 'a', 'a', 'a', 'a', 'a', 'a')));
      check.due("six names", x.power(9, power), 1);
      check.due("all counted", x.node(1, 5), 6);
      check.due("3 always", x.power(9, 3), 1);
    }
    // Of another kind and nearer than the resource.
    RestBoard x = Check.board(Check.resource('a', 0, 0), Check.device('d', Check.number('a', 1), Check.pack('p', 'a')));
    check.due("nearer", x.power(2, 0), -4);
  }

  private static void itsOwnPackage() {
    check.says("VALUES of its own PACKAGE p, q, r");
    RestBoard x = Check.board(Check.resource('a', 0, 0), Check.pack('p', 'a'), Check.pack('q', 'a'), Check.pack('r', 'a'), Check.pack('w', 1, 1), Check.device('d', Check.device('e', Check.pack('p', 'a'))));
    check.due("not the root's q", x.power(6, 1), -4);
    check.due("not the root's r", x.power(6, 2), -4);
    check.due("not the root's w", x.arm(6), -4);
    check.due("not the root's p", x.power(6, 0), 0);
    check.due("none", x.wants(6), 0);
    check.due("none", x.node(1, 5), 0);
    check.due("its own", x.power(7, 0), 1);
  }

  private static void otherPackages() {
    check.says("by 3, or 0 without p: none.");
    RestBoard x = Check.board(Check.number('i', 3), Check.resource('a', 4, 0), Check.device('d', Check.pack('o', 'a'), Check.pack('s', 'a'), Check.pack('t', 'a'), Check.pack('w', 1, 4)));
    check.due("0", x.power(3, 0), 0);
    check.due("none by 0", x.wants(3), 0);
    check.due("3", x.power(3, 3), 0);
    check.due("none by 3", x.wants(3), 0);
    check.refused("no 4", x, -1, () -> x.power(3, 4));
    x.power(3, 0);
    check.due("to rest", x.rest(1), 1);
    check.due("3 is the greatest", x.node(3, 30), 3);
    check.due("none by 3", x.wants(3), 0);
    x.undo();
    x.arm(3);
    check.due("to rest", x.rest(1), 1);
    check.due("3 is the greatest", x.node(3, 30), 3);
    check.due("none was ever on", x.count(10), 0);
  }

  private static void newOnesFirst() {
    check.says("To POWER it: what it WANTS by the new POWER is COUNTED, then what it WANTED since it has the old one is uncounted.");
    RestBoard x = Check.board(Check.resource('a', 0, 9), Check.resource('b', 0, 0), Check.resource('c', 0, 5), Check.device('d', Check.pack('p', 'a', 'b'), Check.pack('q', 'b', 'c')));
    x.power(4, 0);
    check.due("one on, one off", x.power(4, 1), 2);
    check.row("what both want is not switched", Check.switches(x), 1, 0, 3, 1, 1, 1, 2, 1);
    check.due("b", x.node(2, 5), 1);
    check.due("the other way", x.power(4, 0), 2);
    check.row("on first", Arrays.copyOf(Check.switches(x), 4), 3, 0, 1, 1);
    // The package is another by now: what it wanted since then is uncounted.
    x = Check.board(Check.resource('a', 0, 0), Check.resource('b', 0, 0), Check.device('d', Check.pack('p', 'a', 'a'), Check.method('m', 2, 18, 'p', 3, 0, 3, 1)));
    x.power(3, 0);
    x.call(5, 0, 'b', 0);
    x.call(5, 1, 0, 0);
    check.due("one off", x.power(3, 3), 1);
    check.due("a", x.node(1, 5), 0);
    check.due("b", x.node(2, 5), 0);
    check.due("not again", x.power(3, 0), -4);
    // A nearer resource has come by now.
    x = Check.board(Check.resource('a', 0, 0), Check.device('d', Check.pack('p', 'a'), Check.pack('q', 'a')));
    x.power(2, 0);
    Check.load(x, 2, Check.resource('a', 0, 0));
    check.due("the nearer one on, the other off", x.power(2, 1), 2);
    check.due("the first", x.node(1, 5), 0);
    check.due("the nearer one", x.node(5, 5), 1);
  }

  private static void runsItsMethod() {
    check.says("Then its own METHOD c, if it has one with 1 ARG, is run with the POWER:");
    RestBoard x = Check.board(Check.resource('a', 0, 0), Check.resource('b', 0, 0), Check.device('d', Check.pack('p', 'a'), Check.pack('q', 'b'), Check.pack('r'),
        Check.method('c', 1, 26, 3, 0, 26, 9, 'a', 26, 9, 'b', 22, 0, 200)));
    int[][] due = {{0, 1, 0}, {1, 0, 1}, {2, 0, 0}, {3, 0, 0}};
    int[] switches = {1, 2, 1, 0};
    for (int power = 0; power <= 3; power++) {
      check.due("what it returns is not told", x.power(3, power), switches[power]);
      check.row("power " + power, new int[] {x.note(2, 1), x.note(1, 1), x.note(0, 1)}, due[power]);
      check.due("a note of its parent", x.note(0, 0), 3);
      check.due("steps", x.count(11), 8);
    }
  }

  private static void methodsThatAreNone() {
    check.says("its own METHOD c, if it has one with 1 ARG");
    int[][] others = {Check.method('c', 0, 28, 0, 1), Check.method('c', 2, 28, 0, 1), Check.method('c', 3, 28, 0, 1), Check.number('c', 1), Check.device('c', Check.method('c', 1, 28, 0, 1)), {}};
    for (int[] own : others) {
      RestBoard x = Check.board(Check.method('c', 1, 28, 0, 1), Check.method('m', 0, 22, 0, 1), Check.device('d', own));
      x.call(2, 0, 0, 0);
      check.due("none is run", x.power(3, 0), 0);
      check.due("no error", x.error(0), 0);
      check.due("no steps", x.count(11), 0);
      check.due("status", x.status(), 0);
    }
  }

  private static void takenBack() {
    check.says("by an ERROR the POWER is taken back (what it WANTED is COUNTED, then the other uncounted).");
    RestBoard x = Check.board(Check.resource('a', 0, 3), Check.resource('b', 0, 2), Check.resource('e', 0, 1), Check.number('n', 0),
        Check.device('d', Check.pack('p', 'a', 'b'), Check.pack('q', 'b', 'e', 'e'), Check.method('c', 1, 17, 'n', 3, 0, 26, 0, 9, Check.block(19, row(3, 0), 28, 0, 4))));
    check.due("0 is fine", x.power(5, 0), 2);
    check.due("1 fails", x.power(5, 1), -7);
    check.due("status", x.status(), -7);
    check.due("-7s", x.count(20), 1);
    check.due("its power", x.node(5, 30), 0);
    check.due("a", x.node(1, 5), 1);
    check.due("b", x.node(2, 5), 1);
    check.due("e", x.node(3, 5), 0);
    check.due("wants", x.wants(5), 1 << 1 | 1 << 2);
    check.row("switches there and back", Check.switches(x), 3, 0, 1, 1, 1, 0, 3, 1, 1, 1, 2, 1);
    check.due("what was stored stays", x.node(4, 8), 1);
    check.due("notes stay", x.count(9), 2);
    check.due("steps", x.count(11), 8);
    check.row("error", Check.error(x), 8, 4, 8, 11);
    check.due("3 fails, too", x.power(5, 3), -7);
    check.due("its power", x.node(5, 30), 0);
    check.due("it can be undone", x.undo(), 3);
    check.due("what was stored", x.node(4, 8), 1);
    check.due("it can be undone", x.undo(), 3);
    check.due("what was stored", x.node(4, 8), 0);
    check.due("switches", x.count(10), 2);
    check.due("its power", x.node(5, 30), 0);
    check.due("the error stays", x.error(0), 8);
  }

  private static void takenBackAsItWas() {
    check.says("what it WANTED is COUNTED, then the other uncounted");
    // c changes both packages; still what it wanted since it had the old power is counted.
    RestBoard x = Check.board(Check.resource('a', 0, 0), Check.resource('b', 0, 0), Check.device('d', Check.pack('p', 'a'), Check.pack('q', 'b'),
        Check.method('c', 1, Check.block(19, row(3, 0), 18, 'p', 0, 0, 0, 'b', 18, 'q', 0, 0, 0, 'a', 28, 0, 1))));
    x.power(3, 0);
    check.due("fails", x.power(3, 1), -7);
    check.due("a", x.node(1, 5), 1);
    check.due("b", x.node(2, 5), 0);
    check.due("wants", x.wants(3), 1 << 1);
    check.due("package p", x.node(4, 10), 'b');
    check.due("from 0 to 3 fails", x.power(3, 3), -7);
    check.due("a", x.node(1, 5), 1);
    // What it had since long ago is another than its package, with six values.
    x = Check.board(Check.resource('a', 0, 0), Check.resource('b', 0, 0), Check.device('d', Check.pack('p', 'a', 'a', 'a', 'a', 'a', 'b'), Check.method('c', 1, 28, 4, 'n'),
        Check.method('m', 0, 18, 'p', 0, 0, 0, 0)), Check.number('n', 3));
    check.due("fails", x.power(3, 0), -7);
    check.due("taken back to none", x.node(1, 5) + x.node(2, 5), 0);
    x = Check.board(Check.resource('a', 0, 0), Check.resource('b', 0, 0), Check.number('n', 0), Check.device('d', Check.pack('p', 'a', 'a', 'a', 'a', 'a', 'b'),
        Check.method('c', 1, Check.block(19, row(4, 'n'), 28, 0, 1)), Check.method('m', 0, 18, 'p', 0, 0, 0, 0)));
    x.power(4, 0);
    x.call(7, 0, 0, 0);
    x.store(3, 1);
    check.due("fails", x.power(4, 3), -7);
    check.due("five of a", x.node(1, 5), 5);
    check.due("one of b", x.node(2, 5), 1);
    check.due("wants", x.wants(4), 1 << 1 | 1 << 2);
  }

  private static void takenBackByEachError() {
    check.says("by an ERROR the POWER is taken back");
    int[][] codes = {{23, 4, 'x'}, {23, 5, 'c', 0}, {23, 6, 'p', 0, 9}, {23, 7, 3, 0, 1, 0, 0}, {23, 5, 'c', 1, 0, 1}, {21, 0, 1, 0}, {25, 'l'}, {28, 0, 1}};
    for (int i = 0; i < codes.length; i++) {
      RestBoard x = Check.board(Check.resource('a', 0, 0), Check.device('d', Check.pack('p', 'a'), "Ll", Check.method('c', 1, codes[i])));
      check.due("fails by " + (i + 1), x.power(2, 0), -7);
      check.due("error", x.error(0), i + 1);
      check.due("power", x.node(2, 30), 3);
      check.due("count", x.node(1, 5), 0);
      check.due("wants", x.wants(2), 0);
      check.due("switches", x.count(10), 2);
      check.due("to undo", x.count(12), 2);
    }
  }

  private static void powersRefused() {
    check.says("-1; -2 (the ROOT, too); -3; -4 (it is so; it can't have it; below its PARENT's POWER, above that of one right below it); -7.");
    RestBoard x = Check.board(Check.number('i', 0), Check.device('d', Check.device('e'), Check.method('c', 1)), Check.resource('r', 0, 0), Check.method('m', 0, 23, 0, 1), Check.pack('p', 1),
        Check.field('f', 0, 0, 8, 0), "Ll");
    x.call(6, 0, 0, 0);
    for (int power : new int[] {-1, 4, Integer.MAX_VALUE, Integer.MIN_VALUE}) {
      check.refused("power " + power, x, -1, () -> x.power(2, power));
      check.refused("-1 ahead of -2", x, -1, () -> x.power(0, power));
      check.refused("-1 ahead of -2", x, -1, () -> x.power(99, power));
    }
    for (int node : new int[] {-1, 0, 1, 4, 5, 6, 7, 8, 9, 10, 31, 32, Integer.MAX_VALUE, Integer.MIN_VALUE}) {
      check.refused("node " + node, x, -2, () -> x.power(node, 3));
    }
    check.refused("it is so", x, -4, () -> x.power(2, 3));
    check.refused("it can't have 1", x, -4, () -> x.power(2, 1));
    check.refused("it can't have 2", x, -4, () -> x.power(2, 2));
    x.power(2, 0);
    x.power(3, 0);
    check.refused("above that of one right below it", x, -4, () -> x.power(2, 3));
    check.refused("it is so", x, -4, () -> x.power(2, 0));
    x.power(3, 3);
    x.power(2, 3);
    check.refused("below its parent's", x, -4, () -> x.power(3, 0));
    x.rest(1);
    check.refused("at rest", x, -3, () -> x.power(2, 0));
    check.refused("-3 ahead of -4", x, -3, () -> x.power(2, 3));
    check.refused("-3 ahead of -4", x, -3, () -> x.power(2, 1));
    check.refused("-2 ahead of -3", x, -2, () -> x.power(0, 0));
    check.refused("-1 ahead of -3", x, -1, () -> x.power(2, 4));
    RestBoard y = Check.board(Check.device('d', Check.method('c', 1, 28, 0, 1)));
    check.refused("-4 ahead of -7", y, -4, () -> y.power(1, 3));
    check.due("-7", y.power(1, 0), -7);
  }

  private static void howManySwitches() {
    check.says("A DEVICE is POWERED: how many SWITCHES that took.");
    int[] resources = {};
    for (int i = 0; i < 12; i++) {
      resources = row(resources, Check.resource((char) ('a' + i), 0, 9 - i % 10));
    }
    RestBoard x = Check.board(resources, Check.device('x', Check.pack('p', 'a', 'b', 'c', 'd', 'e', 'f'), Check.pack('q', 'g', 'h', 'i', 'j', 'k', 'l'), Check.pack('r', 'f', 'g', 'g', 'g', 'g', 'g')));
    check.due("none to six", x.power(13, 0), 6);
    check.due("six to six others", x.power(13, 1), 12);
    check.due("six to two, one of them the same", x.power(13, 2), 6);
    check.due("two to none", x.power(13, 3), 2);
    check.due("all told", x.count(10), 26);
    check.due("status", x.status(), 0);
    check.due("told as undone", x.undo(), 3);
    check.due("undone", x.node(13, 30), 2);
  }

  private static void linesAndDepths() {
    check.says("Its own PACKAGE w: a LINE 0 .. 7, a DEPTH 1 .. 4, then NAMES of RESOURCES.");
    for (int line : new int[] {0, 1, 6, 7, 8, 9, 255, 256, 65535}) {
      for (int depth : new int[] {0, 1, 2, 3, 4, 5, 255, 256, 65535}) {
        RestBoard x = Check.board(Check.device('d', Check.pack('w', line, depth)));
        boolean fits = line <= 7 && depth >= 1 && depth <= 4;
        if (fits) {
          check.due("line " + line + ", depth " + depth, x.arm(1), line);
          check.due("line told", x.node(1, 32), line);
          check.due("depth told", x.node(1, 33), depth);
          check.due("armed", x.node(1, 31), 1);
          check.due("how many are", x.count(4), 1);
        } else {
          check.refused("line " + line + ", depth " + depth, x, -4, () -> x.arm(1));
        }
      }
    }
    check.says("it has no such PACKAGE w");
    RestBoard x = Check.board(Check.device('d'), Check.device('e', Check.pack('w')), Check.device('f', Check.pack('w', 1)), Check.device('g', Check.number('w', 1)),
        Check.device('h', Check.device('w')), Check.device('k', Check.pack('v', 1, 1)));
    for (int device : new int[] {1, 2, 4, 6, 8, 10}) {
      check.refused("device " + device, x, -4, () -> x.arm(device));
    }
  }

  private static void namesOfTies() {
    check.says("then NAMES of RESOURCES.");
    int[] wrong = {0, 1, 96, 123, 255, 'a' + 256, 'x', 65535, 'd', 'm', 'n', 'k', 'f', 'l'};
    int[] before = row(Check.resource('a', 0, 0), Check.method('m', 0), Check.number('n', 'a'), Check.pack('k', 'a'), Check.field('f', 0, 0, 1, 0), "Ll");
    for (int many = 0; many <= 4; many++) {
      int[] values = {7, 4, 'a', 'a', 'a', 'a'};
      RestBoard x = Check.board(before, Check.device('d', Check.pack('w', Arrays.copyOf(values, 2 + many))));
      check.due("so many names: " + many, x.arm(7), 7);
      check.due("counted", x.node(1, 5), many);
      check.due("wants", x.wants(7), many == 0 ? 0 : 1 << 1);
      check.due("off", x.disarm(7), many == 0 ? 0 : 1);
      check.due("none", x.node(1, 5), 0);
      check.due("wants none", x.wants(7), 0);
    }
    for (int value : wrong) {
      for (int place = 2; place < 6; place++) {
        int[] values = {7, 4, 'a', 'a', 'a', 'a'};
        values[place] = value;
        RestBoard x = Check.board(before, Check.device('d', Check.pack('w', values)));
        check.refused(value + " at " + place, x, -4, () -> x.arm(7));
      }
    }
    // Looked up from the device itself.
    RestBoard x = Check.board(Check.resource('a', 0, 0), Check.device('d', Check.resource('a', 0, 0), Check.pack('w', 0, 1, 'a')));
    x.arm(2);
    check.due("its own", x.wants(2), 1 << 3);
  }

  private static void asTheyAreNow() {
    check.says("To ARM it: LINE, DEPTH as they are now, these are COUNTED till it is disarmed.");
    RestBoard x = Check.board(Check.resource('a', 4, 0), Check.resource('b', 4, 0), Check.number('l', 0), Check.device('d', Check.pack('w', 1, 2, 'a'), Check.method('m', 2, 18, 'w', 3, 0, 3, 1)));
    x.call(6, 0, 5, 0);
    x.call(6, 1, 4, 0);
    x.call(6, 2, 'b', 0);
    check.due("as they are now", x.arm(4), 5);
    check.due("depth", x.node(4, 33), 4);
    check.due("b", x.wants(4), 1 << 2);
    x.call(6, 0, 99, 0);
    x.call(6, 1, 1, 0);
    x.call(6, 2, 'a', 0);
    check.due("line stays", x.node(4, 32), 5);
    check.due("depth stays", x.node(4, 33), 4);
    check.due("b stays", x.wants(4), 1 << 2);
    check.due("by the depth that was", x.why(4), 0);
    check.due("by the line that was", x.raise(5), 1);
    check.due("disarm", x.disarm(4), 1);
    check.due("b", x.node(2, 5), 0);
    check.due("line 99 can't be", x.arm(4), -4);
  }

  private static void tillItIsDisarmed() {
    check.says("It is ARMED no more: how many RESOURCES were switched OFF.");
    RestBoard x = Check.board(Check.resource('a', 0, 0), Check.resource('b', 0, 1), Check.resource('e', 0, 2), Check.resource('f', 0, 3),
        Check.device('d', Check.pack('w', 0, 1, 'a', 'b', 'e', 'f'), Check.pack('p', 'f')));
    x.arm(5);
    check.due("four on", x.count(3), 4);
    check.due("counted by power as well", x.power(5, 0), 0);
    check.due("f", x.node(4, 5), 2);
    check.due("three off", x.disarm(5), 3);
    check.row("falling", Arrays.copyOf(Check.switches(x), 6), 1, 0, 2, 0, 3, 0);
    check.due("f stays on", x.node(4, 5), 1);
    check.due("not armed", x.node(5, 31), 0);
    check.due("no line", x.node(5, 32), -1);
    check.due("no depth", x.node(5, 33), -1);
    check.due("wants", x.wants(5), 1 << 4);
    check.due("arm again", x.arm(5), 0);
    check.due("power off", x.power(5, 3), 0);
    check.due("four off", x.disarm(5), 4);
    check.due("told as undone", x.undo(), 5);
    check.due("armed", x.node(5, 31), 1);
    check.due("four on", x.count(3), 4);
  }

  private static void othersStayArmed() {
    check.says("these are COUNTED till it is disarmed.");
    int[] four = row(Check.resource('a', 4, 0), Check.resource('b', 4, 0), Check.resource('c', 4, 0), Check.resource('d', 4, 0));
    int[] w = Check.pack('w', 1, 4, 'a', 'b', 'c', 'd');
    // Nodes 5, 6 and 7 are devices in one another, 11 lies beside them.
    RestBoard x = Check.board(four, Check.device('s', Check.device('t', Check.device('u', w), w), w), Check.device('v', w));
    int[] devices = {5, 6, 7, 11};
    for (int first : devices) {
      for (int second : devices) {
        if (first == second) {
          continue;
        }
        x.arm(first);
        x.arm(second);
        check.due("both", x.node(1, 5) + x.node(2, 5) + x.node(3, 5) + x.node(4, 5), 8);
        check.due("the first", x.wants(first), 30);
        check.due("the second", x.wants(second), 30);
        check.due("none off", x.disarm(first), 0);
        check.due("one", x.node(1, 5) + x.node(2, 5) + x.node(3, 5) + x.node(4, 5), 4);
        check.due("the first", x.wants(first), 0);
        check.due("the second", x.wants(second), 30);
        check.due("its line", x.node(second, 32), 1);
        check.due("all off", x.disarm(second), 4);
        check.due("none", x.count(3), 0);
      }
    }
    // The same for what they want by their powers.
    int[] p = Check.pack('p', 'a', 'b', 'c', 'd', 'a', 'b');
    x = Check.board(four, Check.device('s', Check.device('t', Check.device('u', p), p), p), Check.device('v', p));
    for (int device : devices) {
      x.power(device, 0);
    }
    check.due("a", x.node(1, 5), 8);
    x.power(7, 3);
    check.due("a", x.node(1, 5), 6);
    check.due("wants", x.wants(6), 30);
    x.power(6, 3);
    check.due("wants", x.wants(5), 30);
    x.power(5, 3);
    check.due("a", x.node(1, 5), 2);
    check.due("d", x.node(4, 5), 1);
    check.due("wants", x.wants(11), 30);
    check.due("all off", x.power(11, 3), 4);
  }

  private static void armsRefused() {
    check.says("A DEVICE is ARMED: its LINE. -2 (the ROOT, too); -3; -4 (it is; it has no such PACKAGE w).");
    RestBoard x = Check.board(Check.number('i', 0), Check.device('d', Check.pack('w', 3, 1)), Check.resource('r', 0, 0), Check.method('m', 0), Check.pack('w', 1, 1), Check.field('f', 0, 0, 8, 0), "Ll",
        Check.device('e'));
    for (int node : new int[] {-1, 0, 1, 3, 4, 5, 6, 7, 8, 10, 31, 32, Integer.MAX_VALUE, Integer.MIN_VALUE}) {
      check.refused("node " + node, x, -2, () -> x.arm(node));
    }
    check.due("line", x.arm(2), 3);
    check.due("status", x.status(), 0);
    check.refused("it is", x, -4, () -> x.arm(2));
    check.refused("no w", x, -4, () -> x.arm(9));
    x.rest(1);
    check.refused("at rest", x, -3, () -> x.arm(9));
    check.refused("-3 ahead of -4", x, -3, () -> x.arm(2));
    check.refused("-2 ahead of -3", x, -2, () -> x.arm(0));
    check.refused("-2 ahead of -3", x, -2, () -> x.arm(4));
    x.undo();
    check.due("told as undone", x.undo(), 4);
    check.due("not armed", x.count(4), 0);
  }

  private static void disarmsRefused() {
    check.says("-2 (the ROOT, too); -3; -4 (it is not).");
    RestBoard x = Check.board(Check.number('i', 0), Check.device('d', Check.pack('w', 3, 1)), Check.resource('r', 0, 0), Check.method('m', 0), Check.pack('p', 1), Check.field('f', 0, 0, 8, 0), "Ll");
    for (int node : new int[] {-1, 0, 1, 3, 4, 5, 6, 7, 8, 31, 32, Integer.MAX_VALUE, Integer.MIN_VALUE}) {
      check.refused("node " + node, x, -2, () -> x.disarm(node));
    }
    check.refused("it is not", x, -4, () -> x.disarm(2));
    x.arm(2);
    x.rest(1);
    check.refused("at rest", x, -3, () -> x.disarm(2));
    check.refused("-2 ahead of -3", x, -2, () -> x.disarm(0));
    check.refused("-2 ahead of -3", x, -2, () -> x.disarm(1));
    x.undo();
    check.due("none off", x.disarm(2), 0);
    check.due("status", x.status(), 0);
    check.refused("it is not", x, -4, () -> x.disarm(2));
    x.rest(1);
    check.refused("-3 ahead of -4", x, -3, () -> x.disarm(2));
  }

  private static void wanting() {
    check.says("The RESOURCES that a DEVICE WANTS by its POWER, and those that it has COUNTED for being ARMED, as bits of NODES. NONE (no such DEVICE).");
    int[] many = {};
    for (int i = 0; i < 24; i++) {
      many = row(many, 'L', 'a' + i);
    }
    RestBoard x = Check.board(Check.resource('z', 4, 0), many, Check.device('y', Check.pack('p', 'z', 'c', 'c'), Check.pack('w', 1, 1, 'c', 'd'), Check.resource('d', 4, 0), "La", Check.resource('c', 4, 0)));
    check.due("node 31", x.node(31, 0), 2);
    check.due("none yet", x.wants(26), 0);
    x.power(26, 0);
    check.due("by its power", x.wants(26), 1L << 1 | 1L << 31);
    x.arm(26);
    check.due("either way", x.wants(26), 1L << 1 | 1L << 31 | 1L << 29);
    x.power(26, 3);
    check.due("armed", x.wants(26), 1L << 31 | 1L << 29);
    check.due("31 is wanted", x.wanted(31), 1L << 26);
    check.due("two off", x.disarm(26), 2);
    check.row("31 off", Arrays.copyOf(Check.switches(x), 4), 29, 0, 31, 0);
    check.due("none", x.wants(26), 0);
    check.due("the root wants none", x.wants(0), 0);
    for (int node : new int[] {-1, 1, 2, 27, 31, 32, Integer.MAX_VALUE, Integer.MIN_VALUE}) {
      check.due("no such device " + node, x.wants(node), -1);
    }
    // All six of a package and all four of a w.
    int[] ten = {};
    for (int i = 0; i < 10; i++) {
      ten = row(ten, Check.resource((char) ('a' + i), 4, i));
    }
    x = Check.board(ten, Check.device('x', Check.pack('p', 'a', 'b', 'c', 'd', 'e', 'f'), Check.pack('w', 0, 1, 'g', 'h', 'i', 'j')), Check.device('y'), Check.device('z'));
    x.power(11, 0);
    check.due("six", x.wants(11), 0x7e);
    x.arm(11);
    check.due("ten", x.wants(11), 0x7fe);
    check.due("no other one does", x.wants(14) + x.wants(15), 0);
  }

  private static void wantedBy() {
    check.says("The DEVICES that want a RESOURCE (either way), as bits of NODES. NONE.");
    int[] many = {};
    for (int i = 0; i < 20; i++) {
      many = row(many, 'L', 'a' + i);
    }
    RestBoard x = Check.board(many, Check.resource('z', 4, 0), Check.device('y', Check.pack('p', 'z')), Check.device('x', Check.pack('w', 1, 1, 'z')), Check.device('v', "La", "Lb"), "Lw",
        Check.device('u', Check.pack('p', 'z')));
    check.due("the last device", x.node(30, 0), 1);
    check.due("by none", x.wanted(21), 0);
    x.power(22, 0);
    x.arm(24);
    check.due("by both", x.wanted(21), 1L << 22 | 1L << 24);
    x.power(30, 0);
    check.due("by three", x.wanted(21), 1L << 22 | 1L << 24 | 1L << 30);
    x.power(22, 3);
    x.disarm(24);
    check.due("by the last", x.wanted(21), 1L << 30);
    for (int node : new int[] {-1, 0, 1, 22, 31, 32, Integer.MAX_VALUE, Integer.MIN_VALUE}) {
      check.due("no such resource " + node, x.wanted(node), -1);
    }
  }

  private static void lastSwitches() {
    check.says("SWITCHES: a RESOURCE, 1 ON, 0 OFF; the last 32.");
    RestBoard x = Check.board(Check.resource('a', 0, 0), Check.resource('b', 0, 1), Check.resource('e', 0, 2), Check.device('d', Check.pack('p', 'a'), Check.pack('q', 'b'), Check.pack('r', 'e')));
    List<int[]> all = new ArrayList<>();
    int[] path = {0, 1, 2, 1, 0, 2};
    int have = 3;
    for (int i = 0; i < 40; i++) {
      int next = path[i % path.length];
      if (next == have) {
        continue;
      }
      x.power(4, next);
      all.add(0, new int[] {1 + next, 1});
      if (have != 3) {
        all.add(0, new int[] {1 + have, 0});
      }
      have = next;
      check.due("kept", x.count(10), Math.min(all.size(), 32));
      for (int ago = 0; ago < 40; ago++) {
        boolean kept = ago < 32 && ago < all.size();
        check.due("resource", x.switched(ago, 0), kept ? all.get(ago)[0] : -1);
        check.due("on or off", x.switched(ago, 1), kept ? all.get(ago)[1] : -1);
      }
    }
    check.says("Of the SWITCH so many ago the RESOURCE (what 0), 1 ON or 0 OFF (1). NONE.");
    for (int[] none : new int[][] {{-1, 0}, {32, 0}, {0, 2}, {0, -1}, {31, 2}, {Integer.MAX_VALUE, 0}, {Integer.MIN_VALUE, 1}, {0, Integer.MAX_VALUE}, {0, Integer.MIN_VALUE}}) {
      check.asked("none", x, -1, () -> x.switched(none[0], none[1]));
    }
    RestBoard y = new RestBoard();
    check.due("none at first", y.switched(0, 0), -1);
  }
}
