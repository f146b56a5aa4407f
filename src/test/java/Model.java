import java.util.ArrayList;
import java.util.Collections;
import java.util.List;
import java.util.TreeMap;

/**
 * The document once more, written another way (trees of terms, exceptions, copies of everything), so
 * that ModelTest can hold the board against it. It need not be quick nor keep to LANGUAGE.md.
 */
final class Model {
  static final class Term {
    int place;
    int what;
    int[] numbers = new int[2];
    List<Term> terms = new ArrayList<>();
  }

  static final class Statement {
    int place;
    int what;
    int number;
    List<Term> terms = new ArrayList<>();
    List<Statement> body = new ArrayList<>();
    List<Statement> other = new ArrayList<>();
  }

  static final class Item {
    int kind;
    int name;
    int parent;
    int[] told = new int[4];
    int[] code = {};
    List<Statement> body = new ArrayList<>();
    int value;
    List<Integer> values = new ArrayList<>();
    int count;
    int forgotten;
    int power;
    boolean armed;
    int line;
    int depth;
    List<Integer> wants = new ArrayList<>();
    List<Integer> ties = new ArrayList<>();
    int oldPower;
    List<Integer> oldWants = new ArrayList<>();

    Item copy() {
      Item item = new Item();
      item.kind = kind;
      item.name = name;
      item.parent = parent;
      item.told = told;
      item.code = code;
      item.body = body;
      item.value = value;
      item.values = new ArrayList<>(values);
      item.count = count;
      item.forgotten = forgotten;
      item.power = power;
      item.armed = armed;
      item.line = line;
      item.depth = depth;
      item.wants = new ArrayList<>(wants);
      item.ties = new ArrayList<>(ties);
      item.oldPower = oldPower;
      item.oldWants = new ArrayList<>(oldWants);
      return item;
    }
  }

  static final class World {
    List<Item> items = new ArrayList<>();
    int resting;
    boolean[] raised = new boolean[8];
    boolean[][] bits = new boolean[5][64];
    int select;
    int reads;
    int writes;
    List<int[]> notes = new ArrayList<>();
    List<int[]> switches = new ArrayList<>();

    World copy() {
      World world = new World();
      for (Item item : items) {
        world.items.add(item.copy());
      }
      world.resting = resting;
      world.raised = raised.clone();
      for (int i = 0; i < 5; i++) {
        world.bits[i] = bits[i].clone();
      }
      world.select = select;
      world.reads = reads;
      world.writes = writes;
      world.notes.addAll(notes);
      world.switches.addAll(switches);
      return world;
    }
  }

  static final class Fault extends RuntimeException {
    final int place;

    Fault(int place) {
      super(null, null, false, false);
      this.place = place;
    }
  }

  static final class Failure extends RuntimeException {
    final int number;
    final int reason;
    final List<Integer> trace = new ArrayList<>();

    Failure(int number, int reason) {
      super(null, null, false, false);
      this.number = number;
      this.reason = reason;
    }
  }

  static final class Leave extends RuntimeException {
    final int value;

    Leave(int value) {
      super(null, null, false, false);
      this.value = value;
    }
  }

  World world = new World();
  List<Integer> tape = new ArrayList<>();
  List<Object[]> past = new ArrayList<>();
  int fault = -1;
  int steps;
  int status;
  int[] refused = new int[8];
  int[] error = {0, 0};

  Model() {
    Item root = new Item();
    root.kind = 1;
    root.parent = -1;
    world.items.add(root);
  }

  // The tape and its tables.

  int feed(int... five) {
    if (tape.size() > 380) {
      return -1;
    }
    for (int number : five) {
      for (int i = 3; i >= 0; i--) {
        tape.add(number >>> 8 * i & 255);
      }
    }
    return tape.size();
  }

  int end(int n) {
    if (n < 0 || n > tape.size()) {
      return -1;
    }
    tape = new ArrayList<>(tape.subList(0, n));
    return n;
  }

  int load(int device) {
    if (!is(device, 1)) {
      return refuse(-2);
    }
    if (world.resting > 0) {
      return refuse(-3);
    }
    World before = world.copy();
    int size = world.items.size();
    try {
      fault = -1;
      at = 0;
      if (tape.isEmpty()) {
        throw new Fault(0);
      }
      definitions(device, tape.size());
    } catch (Fault found) {
      fault = found.place;
    }
    tape.clear();
    if (fault >= 0) {
      world = before;
      return refuse(-6);
    }
    past.add(new Object[] {0, before});
    return accept(world.items.size() - size);
  }

  private int at;

  private int read(int limit, int least, int most) {
    if (at == limit) {
      throw new Fault(limit);
    }
    int got = tape.get(at);
    if (got < least || got > most) {
      throw new Fault(at);
    }
    at++;
    return got;
  }

  private int length(int limit, int most) {
    int n = read(limit, 0, most);
    if (at + n > limit) {
      throw new Fault(at - 1);
    }
    return n;
  }

  private void definitions(int parent, int limit) {
    while (at < limit) {
      int place = at;
      int kind = "DRMNPFL".indexOf(tape.get(at)) + 1;
      if (kind == 0 || world.items.size() == 32) {
        throw new Fault(place);
      }
      at++;
      int name = read(limit, 97, 122);
      for (Item other : world.items) {
        if (other.parent == parent && other.name == name) {
          throw new Fault(at - 1);
        }
      }
      Item item = new Item();
      item.kind = kind;
      item.name = name;
      item.parent = parent;
      item.power = kind == 1 ? 3 : 0;
      int own = world.items.size();
      world.items.add(item);
      if (kind == 1) {
        int n = length(limit, 255);
        definitions(own, at + n);
      } else if (kind == 2) {
        item.told[0] = read(limit, 0, 4);
        item.told[1] = read(limit, 0, 9);
      } else if (kind == 3) {
        item.told[0] = read(limit, 0, 3);
        int n = length(limit, 60);
        item.code = new int[n];
        for (int i = 0; i < n; i++) {
          item.code[i] = tape.get(at + i);
        }
        item.body = statements(at, at + n, item.told[0], false);
      } else if (kind == 4) {
        item.value = 256 * read(limit, 0, 255) + read(limit, 0, 255);
      } else if (kind == 5) {
        int m = read(limit, 0, 6);
        for (int i = 0; i < m; i++) {
          item.values.add(256 * read(limit, 0, 255) + read(limit, 0, 255));
        }
      } else if (kind == 6) {
        item.told[0] = read(limit, 0, 4);
        item.told[1] = read(limit, 0, 63);
        item.told[2] = read(limit, 1, 16);
        if (item.told[1] + item.told[2] > 64) {
          throw new Fault(at - 1);
        }
        item.told[3] = read(limit, 0, 2);
      }
    }
  }

  private List<Statement> statements(int start, int limit, int args, boolean looped) {
    List<Statement> all = new ArrayList<>();
    while (at < limit) {
      Statement s = new Statement();
      s.place = at - start;
      s.what = read(limit, 16, 28);
      if (s.what == 20 || s.what == 27 && !looped) {
        throw new Fault(at - 1);
      }
      if (s.what == 16) {
        s.number = read(limit, 0, 3);
      }
      if (s.what == 17 || s.what == 18 || s.what == 24 || s.what == 25) {
        s.number = read(limit, 97, 122);
      }
      int terms = s.what == 18 ? 2 : s.what == 24 || s.what == 25 || s.what == 27 ? 0 : 1;
      for (int i = 0; i < terms; i++) {
        s.terms.add(term(start, limit, args, 1));
      }
      if (s.what == 19 || s.what == 21) {
        int n = length(limit, 255);
        s.body = statements(start, at + n, args, looped || s.what == 21);
      }
      if (s.what == 19 && at < limit && tape.get(at) == 20) {
        at++;
        int n = length(limit, 255);
        s.other = statements(start, at + n, args, looped);
      }
      all.add(s);
    }
    return all;
  }

  private Term term(int start, int limit, int args, int deep) {
    if (deep == 9) {
      throw new Fault(at);
    }
    Term t = new Term();
    t.place = at - start;
    t.what = read(limit, 0, 9);
    int parts = 0;
    switch (t.what) {
      case 0 -> t.numbers[0] = read(limit, 0, 255);
      case 1 -> t.numbers[0] = 256 * read(limit, 0, 255) + read(limit, 0, 255);
      case 2 -> t.numbers[0] = read(limit, 0, 3);
      case 3 -> t.numbers[0] = read(limit, 0, args - 1);
      case 4, 9 -> t.numbers[0] = read(limit, 97, 122);
      case 5 -> {
        t.numbers[0] = read(limit, 97, 122);
        parts = read(limit, 0, 3);
      }
      case 6 -> {
        t.numbers[0] = read(limit, 97, 122);
        parts = 1;
      }
      case 7 -> {
        t.numbers[0] = read(limit, 0, 9);
        parts = 2;
      }
      default -> parts = 1;
    }
    for (int i = 0; i < parts; i++) {
      t.terms.add(term(start, limit, args, deep + 1));
    }
    return t;
  }

  // Methods.

  private static final class Run {
    int method;
    int home;
    int[] args;
    int[] locals = new int[4];
    TreeMap<Integer, Integer> locks = new TreeMap<>();
    List<Integer> places = new ArrayList<>();
  }

  private int running;
  private int forgotten;

  /** What it returns; -7 with the error told. */
  private int runFromOutside(int method, int... args) {
    steps = 0;
    running = 0;
    forgotten = 0;
    try {
      return run(method, args);
    } catch (Failure failure) {
      error = new int[2 + failure.trace.size()];
      error[0] = failure.number;
      error[1] = failure.reason;
      for (int i = 0; i < failure.trace.size(); i++) {
        error[2 + i] = failure.trace.get(i);
      }
      return -7;
    }
  }

  private int run(int method, int[] args) {
    Run run = new Run();
    run.method = method;
    run.home = world.items.get(method).parent;
    run.args = args;
    running++;
    try {
      perform(run, world.items.get(method).body);
      return 0;
    } catch (Leave leave) {
      return leave.value;
    } catch (Failure failure) {
      failure.trace.add(method);
      failure.trace.add(run.places.get(run.places.size() - 1));
      throw failure;
    } finally {
      running--;
      for (int lock : run.locks.keySet()) {
        world.items.get(lock).forgotten += run.locks.get(lock);
        forgotten += run.locks.get(lock);
      }
    }
  }

  private void step() {
    if (steps == 1000) {
      throw new Failure(6, 0);
    }
    steps++;
  }

  /** True if a 27 is on its way out of the innermost 21. */
  private boolean perform(Run run, List<Statement> all) {
    for (Statement s : all) {
      run.places.add(s.place);
      step();
      if (perform(run, s)) {
        run.places.remove(run.places.size() - 1);
        return true;
      }
      run.places.remove(run.places.size() - 1);
    }
    return false;
  }

  private boolean perform(Run run, Statement s) {
    switch (s.what) {
      case 16 -> run.locals[s.number] = reckon(run, s.terms.get(0));
      case 17 -> {
        int value = reckon(run, s.terms.get(0));
        int node = lookUp(run.home, s.number);
        if (is(node, 4) || is(node, 6)) {
          put(node, value);
        } else {
          throw new Failure(1, 0);
        }
      }
      case 18 -> {
        int which = reckon(run, s.terms.get(0));
        int value = reckon(run, s.terms.get(1));
        Item item = named(run, s.number, 5);
        if (which >= item.values.size()) {
          throw new Failure(3, 0);
        }
        item.values.set(which, value);
      }
      case 19 -> {
        return perform(run, reckon(run, s.terms.get(0)) != 0 ? s.body : s.other);
      }
      case 21 -> {
        while (reckon(run, s.terms.get(0)) != 0) {
          if (perform(run, s.body)) {
            break;
          }
        }
      }
      case 22 -> throw new Leave(reckon(run, s.terms.get(0)));
      case 23 -> reckon(run, s.terms.get(0));
      case 24 -> run.locks.merge(world.items.indexOf(named(run, s.number, 7)), 1, Integer::sum);
      case 25 -> {
        int lock = world.items.indexOf(named(run, s.number, 7));
        if (run.locks.getOrDefault(lock, 0) == 0) {
          throw new Failure(7, 0);
        }
        run.locks.merge(lock, -1, Integer::sum);
      }
      case 26 -> keep(world.notes, 16, run.home, reckon(run, s.terms.get(0)));
      case 27 -> {
        return true;
      }
      default -> throw new Failure(8, reckon(run, s.terms.get(0)));
    }
    return false;
  }

  private Item named(Run run, int name, int kind) {
    int node = lookUp(run.home, name);
    if (!is(node, kind)) {
      throw new Failure(1, 0);
    }
    return world.items.get(node);
  }

  private int reckon(Run run, Term t) {
    run.places.add(t.place);
    step();
    int[] parts = new int[t.terms.size()];
    for (int i = 0; i < parts.length; i++) {
      parts[i] = reckon(run, t.terms.get(i));
    }
    int value = value(run, t, parts);
    run.places.remove(run.places.size() - 1);
    return value;
  }

  private int value(Run run, Term t, int[] parts) {
    int number = t.numbers[0];
    switch (t.what) {
      case 0, 1:
        return number;
      case 2:
        return run.locals[number];
      case 3:
        return run.args[number];
      case 4: {
        int node = lookUp(run.home, number);
        if (!is(node, 4) && !is(node, 6)) {
          throw new Failure(1, 0);
        }
        Item item = world.items.get(node);
        if (item.kind == 6) {
          select(item.told[0]);
          world.reads += (item.told[1] + item.told[2] - 1) / 8 - item.told[1] / 8 + 1;
        }
        return peek(node);
      }
      case 5: {
        Item item = named(run, number, 3);
        if (item.told[0] != parts.length) {
          throw new Failure(2, 0);
        }
        if (running == 6) {
          throw new Failure(5, 0);
        }
        return run(world.items.indexOf(item), parts);
      }
      case 6: {
        Item item = named(run, number, 5);
        if (parts[0] >= item.values.size()) {
          throw new Failure(3, 0);
        }
        return item.values.get(parts[0]);
      }
      case 7:
        return joined(number, parts[0], parts[1]);
      case 8:
        return parts[0] == 0 ? 1 : 0;
      default:
        return named(run, number, 2).count > 0 ? 1 : 0;
    }
  }

  private static int joined(int how, long a, long b) {
    if ((how == 3 || how == 4) && b == 0) {
      throw new Failure(4, 0);
    }
    long result = switch (how) {
      case 0 -> a + b;
      case 1 -> a - b + 65536;
      case 2 -> a * b;
      case 3 -> a / b;
      case 4 -> a % b;
      case 5 -> a & b;
      case 6 -> a | b;
      case 7 -> a ^ b;
      case 8 -> a < b ? 1 : 0;
      default -> a == b ? 1 : 0;
    };
    return (int) (result % 65536);
  }

  private void select(int bank) {
    if (bank != 4) {
      world.select = bank;
      world.writes++;
    }
  }

  private int peek(int node) {
    Item item = world.items.get(node);
    if (item.kind == 4) {
      return item.value;
    }
    int value = 0;
    for (int i = item.told[2] - 1; i >= 0; i--) {
      value = 2 * value + (world.bits[item.told[0]][item.told[1] + i] ? 1 : 0);
    }
    return value;
  }

  private void put(int node, int value) {
    Item item = world.items.get(node);
    if (item.kind == 4) {
      item.value = value;
      return;
    }
    int from = item.told[1];
    int behind = from + item.told[2];
    select(item.told[0]);
    boolean[] bank = world.bits[item.told[0]];
    for (int i = 0; i < 8; i++) {
      if (8 * i + 8 <= from || 8 * i >= behind) {
        continue;
      }
      boolean whole = 8 * i >= from && 8 * i + 8 <= behind;
      if (!whole && item.told[3] == 0) {
        world.reads++;
      }
      for (int bit = 8 * i; bit < 8 * i + 8; bit++) {
        if (bit >= from && bit < behind) {
          bank[bit] = (value >> bit - from & 1) == 1;
        } else if (item.told[3] != 0) {
          bank[bit] = item.told[3] == 1;
        }
      }
      world.writes++;
    }
  }

  private static void keep(List<int[]> log, int room, int who, int what) {
    log.add(0, new int[] {who, what});
    if (log.size() > room) {
      log.remove(room);
    }
  }

  // Resources and powers.

  private int turn(List<Integer> resources, boolean on) {
    resources.sort((a, b) -> {
      int first = Integer.compare(world.items.get(a).told[1], world.items.get(b).told[1]);
      return first != 0 ? first : Integer.compare(a, b);
    });
    if (!on) {
      Collections.reverse(resources);
    }
    for (int resource : resources) {
      keep(world.switches, 32, resource, on ? 1 : 0);
    }
    return resources.size();
  }

  private int include(List<Integer> resources) {
    List<Integer> turned = new ArrayList<>();
    for (int resource : resources) {
      if (world.items.get(resource).count++ == 0) {
        turned.add(resource);
      }
    }
    return turn(turned, true);
  }

  private int exclude(List<Integer> resources) {
    List<Integer> turned = new ArrayList<>();
    for (int resource : resources) {
      if (--world.items.get(resource).count == 0) {
        turned.add(resource);
      }
    }
    return turn(turned, false);
  }

  private int own(int device, int name, int kind) {
    for (int i = 0; i < world.items.size(); i++) {
      Item item = world.items.get(i);
      if (item.parent == device && item.name == name && item.kind == kind) {
        return i;
      }
    }
    return -1;
  }

  private int ownMethod(int device, int name) {
    int node = own(device, name, 3);
    return node >= 0 && world.items.get(node).told[0] == 1 ? node : -1;
  }

  /** The resources that values from a place on are names of; null, if one is not. */
  private List<Integer> resources(int device, int node, int from) {
    List<Integer> found = new ArrayList<>();
    List<Integer> values = world.items.get(node).values;
    for (int i = from; i < values.size(); i++) {
      int resource = lookUp(device, values.get(i));
      if (!is(resource, 2)) {
        return null;
      }
      found.add(resource);
    }
    return found;
  }

  /** What it would want by a power; null, if it can't have that. */
  private List<Integer> wantsBy(int device, int power) {
    if (power == 3) {
      return new ArrayList<>();
    }
    int node = own(device, "pqr".charAt(power), 5);
    if (node < 0) {
      return power == 0 ? new ArrayList<>() : null;
    }
    return resources(device, node, 0);
  }

  private int give(Item device, int power, List<Integer> wants) {
    int turned = include(wants);
    turned += exclude(device.wants);
    device.wants = new ArrayList<>(wants);
    device.power = power;
    return turned;
  }

  private int leastBelow(int device) {
    int least = 3;
    for (Item item : world.items) {
      if (item.kind == 1 && item.parent == device) {
        least = Math.min(least, item.power);
      }
    }
    return least;
  }

  // Rests.

  private int above(int node) {
    return node == 0 ? 0 : 1 + above(world.items.get(node).parent);
  }

  private List<Integer> restOrder() {
    List<Integer> all = new ArrayList<>();
    for (int i = 1; i < world.items.size(); i++) {
      if (is(i, 1)) {
        all.add(i);
      }
    }
    all.sort((a, b) -> above(a) != above(b) ? above(b) - above(a) : b - a);
    return all;
  }

  private int enter(int k) {
    steps = 0;
    List<Integer> order = restOrder();
    for (Item item : world.items) {
      item.oldPower = item.power;
      item.oldWants = new ArrayList<>(item.wants);
    }
    List<Item> done = new ArrayList<>();
    int refusal = 0;
    for (int device : order) {
      Item item = world.items.get(device);
      int z = ownMethod(device, 'z');
      if (z >= 0 && runFromOutside(z, k) == -7) {
        refusal = -7;
        break;
      }
      List<Integer> fit = new ArrayList<>();
      int least = item.armed ? Math.min(3, world.items.get(own(0, 'h' + k, 4)).value) : 0;
      for (int power = Math.max(least, item.power); power <= leastBelow(device); power++) {
        if (wantsBy(device, power) != null) {
          fit.add(power);
        }
      }
      if (fit.isEmpty()) {
        refusal = -4;
        break;
      }
      int power = fit.get(item.armed ? 0 : fit.size() - 1);
      if (power != item.power) {
        give(item, power, wantsBy(device, power));
        done.add(0, item);
      }
    }
    if (refusal == 0) {
      for (Item item : world.items) {
        if (item.kind == 2 && item.count > 0 && item.told[0] < k) {
          refusal = -5;
        }
      }
    }
    if (refusal != 0) {
      for (Item item : done) {
        give(item, item.oldPower, item.oldWants);
      }
      return refusal;
    }
    world.resting = k;
    return done.size();
  }

  private void wake() {
    int k = world.resting;
    world.resting = 0;
    List<Integer> order = restOrder();
    Collections.reverse(order);
    for (int device : order) {
      Item item = world.items.get(device);
      if (item.power != item.oldPower) {
        give(item, item.oldPower, item.oldWants);
      }
      int y = ownMethod(device, 'y');
      if (y >= 0) {
        runFromOutside(y, k);
      }
    }
  }

  // The face.

  private boolean is(int node, int kind) {
    return node >= 0 && node < world.items.size() && world.items.get(node).kind == kind;
  }

  private int refuse(int by) {
    status = by;
    refused[-by]++;
    return by;
  }

  private int accept(int answer) {
    status = 0;
    return answer;
  }

  private void remember(int act) {
    past.add(new Object[] {act, world.copy()});
  }

  private int kept() {
    while (past.size() > 8) {
      past.remove(0);
    }
    return past.size();
  }

  private int refusalOfCall(int method, int a, int b, int c) {
    for (int value : new int[] {a, b, c}) {
      if (value < 0 || value > 65535) {
        return -1;
      }
    }
    return !is(method, 3) ? -2 : world.resting > 0 ? -3 : 0;
  }

  int call(int method, int a, int b, int c) {
    int by = refusalOfCall(method, a, b, c);
    if (by != 0) {
      return refuse(by);
    }
    remember(1);
    int result = runFromOutside(method, a, b, c);
    return result < 0 ? refuse(-7) : accept(result);
  }

  int tries(int method, int a, int b, int c, int what) {
    if (what < 0 || what > 4) {
      return -1;
    }
    int by = refusalOfCall(method, a, b, c);
    if (by != 0) {
      return what == 0 ? by : 0;
    }
    World before = world;
    int stepsBefore = steps;
    int[] errorBefore = error;
    world = world.copy();
    int result = runFromOutside(method, a, b, c);
    int[] all = {result, steps, forgotten, world.reads - before.reads, world.writes - before.writes};
    world = before;
    steps = stepsBefore;
    error = errorBefore;
    return all[what];
  }

  int store(int node, int value) {
    if (value < 0 || value > 65535) {
      return refuse(-1);
    }
    if (!is(node, 4) && !is(node, 6)) {
      return refuse(-2);
    }
    if (world.resting > 0) {
      return refuse(-3);
    }
    remember(2);
    int was = peek(node);
    put(node, value);
    return accept(was);
  }

  int power(int device, int power) {
    if (power < 0 || power > 3) {
      return refuse(-1);
    }
    if (device == 0 || !is(device, 1)) {
      return refuse(-2);
    }
    if (world.resting > 0) {
      return refuse(-3);
    }
    Item item = world.items.get(device);
    List<Integer> wants = wantsBy(device, power);
    if (item.power == power || wants == null || power < world.items.get(item.parent).power || power > leastBelow(device)) {
      return refuse(-4);
    }
    remember(3);
    steps = 0;
    int oldPower = item.power;
    List<Integer> oldWants = item.wants;
    int turned = give(item, power, wants);
    int c = ownMethod(device, 'c');
    if (c >= 0 && runFromOutside(c, power) == -7) {
      give(item, oldPower, oldWants);
      return refuse(-7);
    }
    return accept(turned);
  }

  int arm(int device) {
    if (device == 0 || !is(device, 1)) {
      return refuse(-2);
    }
    if (world.resting > 0) {
      return refuse(-3);
    }
    Item item = world.items.get(device);
    int w = own(device, 'w', 5);
    if (item.armed || w < 0 || world.items.get(w).values.size() < 2) {
      return refuse(-4);
    }
    int line = world.items.get(w).values.get(0);
    int depth = world.items.get(w).values.get(1);
    List<Integer> ties = resources(device, w, 2);
    if (line > 7 || depth < 1 || depth > 4 || ties == null) {
      return refuse(-4);
    }
    remember(4);
    item.armed = true;
    item.line = line;
    item.depth = depth;
    item.ties = ties;
    include(ties);
    return accept(line);
  }

  int disarm(int device) {
    if (device == 0 || !is(device, 1)) {
      return refuse(-2);
    }
    if (world.resting > 0) {
      return refuse(-3);
    }
    Item item = world.items.get(device);
    if (!item.armed) {
      return refuse(-4);
    }
    remember(5);
    item.armed = false;
    int turned = exclude(item.ties);
    item.ties = new ArrayList<>();
    return accept(turned);
  }

  private int refusalOfRest(int k) {
    return k < 1 || k > 4 ? -1 : world.resting > 0 ? -3 : why(k) != 0 ? -4 : 0;
  }

  int rest(int k) {
    int by = refusalOfRest(k);
    if (by != 0) {
      return refuse(by);
    }
    remember(6);
    int result = enter(k);
    return result < 0 ? refuse(result) : accept(result);
  }

  int would(int k) {
    int by = refusalOfRest(k);
    if (by != 0) {
      return by;
    }
    World before = world;
    int stepsBefore = steps;
    int[] errorBefore = error;
    world = world.copy();
    int result = enter(k);
    world = before;
    steps = stepsBefore;
    error = errorBefore;
    return result;
  }

  int raise(int line) {
    if (line < 0 || line > 7) {
      return refuse(-1);
    }
    if (world.raised[line]) {
      return refuse(-4);
    }
    remember(7);
    steps = 0;
    world.raised[line] = true;
    List<Integer> tied = new ArrayList<>();
    for (int i = 0; i < world.items.size(); i++) {
      if (world.items.get(i).armed && world.items.get(i).line == line) {
        tied.add(i);
      }
    }
    if (!tied.isEmpty() && world.resting > 0) {
      wake();
    }
    for (int device : tied) {
      keep(world.notes, 16, device, 1000 + line);
    }
    return accept(tied.size());
  }

  int clear(int line) {
    if (line < 0 || line > 7) {
      return refuse(-1);
    }
    if (!world.raised[line]) {
      return refuse(-4);
    }
    remember(8);
    world.raised[line] = false;
    return accept(0);
  }

  int undo() {
    if (kept() == 0) {
      return refuse(-4);
    }
    Object[] last = past.remove(past.size() - 1);
    world = (World) last[1];
    return accept((Integer) last[0]);
  }

  int node(int node, int what) {
    if (node < 0 || node >= world.items.size()) {
      return -1;
    }
    Item item = world.items.get(node);
    TreeMap<Integer, Integer> tells = new TreeMap<>();
    tells.put(0, item.kind);
    tells.put(1, item.name);
    tells.put(2, item.parent);
    switch (item.kind) {
      case 1 -> {
        tells.put(30, item.power);
        tells.put(31, item.armed ? 1 : 0);
        if (item.armed) {
          tells.put(32, item.line);
          tells.put(33, item.depth);
        }
      }
      case 2 -> {
        tells.put(3, item.told[0]);
        tells.put(4, item.told[1]);
        tells.put(5, item.count);
      }
      case 3 -> {
        tells.put(6, item.told[0]);
        tells.put(7, item.code.length);
      }
      case 4 -> tells.put(8, item.value);
      case 5 -> {
        tells.put(9, item.values.size());
        for (int i = 0; i < item.values.size(); i++) {
          tells.put(10 + i, item.values.get(i));
        }
      }
      case 6 -> {
        tells.put(8, peek(node));
        for (int i = 0; i < 4; i++) {
          tells.put(20 + i, item.told[i]);
        }
      }
      default -> tells.put(24, item.forgotten);
    }
    return tells.getOrDefault(what, -1);
  }

  int code(int method, int i) {
    if (!is(method, 3) || i < 0 || i >= world.items.get(method).code.length) {
      return -1;
    }
    return world.items.get(method).code[i];
  }

  int lookUp(int device, int name) {
    if (!is(device, 1)) {
      return -1;
    }
    for (int i = 1; i < world.items.size(); i++) {
      if (world.items.get(i).parent == device && world.items.get(i).name == name) {
        return i;
      }
    }
    return lookUp(world.items.get(device).parent, name);
  }

  int register(int bank, int i) {
    if (bank < 0 || bank > 4 || i < 0 || i > 7) {
      return -1;
    }
    int value = 0;
    for (int bit = 7; bit >= 0; bit--) {
      value = 2 * value + (world.bits[bank][8 * i + bit] ? 1 : 0);
    }
    return value;
  }

  long wants(int device) {
    if (!is(device, 1)) {
      return -1;
    }
    long bits = 0;
    for (int resource : world.items.get(device).wants) {
      bits |= 1L << resource;
    }
    for (int resource : world.items.get(device).ties) {
      bits |= 1L << resource;
    }
    return bits;
  }

  long wanted(int resource) {
    if (!is(resource, 2)) {
      return -1;
    }
    long bits = 0;
    for (int i = 0; i < world.items.size(); i++) {
      if (is(i, 1) && (wants(i) & 1L << resource) != 0) {
        bits |= 1L << i;
      }
    }
    return bits;
  }

  int deepest() {
    return why(4) == 0 ? 4 : why(3) == 0 ? 3 : why(2) == 0 ? 2 : why(1) == 0 ? 1 : 0;
  }

  int why(int k) {
    if (k < 1 || k > 4) {
      return -1;
    }
    if (own(0, 'h' + k, 4) < 0) {
      return 1;
    }
    boolean depth = false;
    boolean level = false;
    boolean line = false;
    for (Item item : world.items) {
      if (item.armed) {
        depth |= item.depth < k;
        line |= world.raised[item.line];
        for (int resource : item.ties) {
          level |= world.items.get(resource).told[0] < k;
        }
      }
    }
    return depth ? 2 : level ? 3 : line ? 4 : 0;
  }

  int order(int i) {
    List<Integer> all = restOrder();
    return i < 0 || i >= all.size() ? -1 : all.get(i);
  }

  int error(int what) {
    if (what == 0 || what == 1) {
      return error[what];
    }
    if (what == 2) {
      return error.length / 2 - 1;
    }
    return what >= 10 && what - 8 < error.length ? error[what - 8] : -1;
  }

  private static int told(List<int[]> log, int ago, int what) {
    return ago < 0 || ago >= log.size() || what < 0 || what > 1 ? -1 : log.get(ago)[what];
  }

  int note(int ago, int what) {
    return told(world.notes, ago, what);
  }

  int switched(int ago, int what) {
    return told(world.switches, ago, what);
  }

  int count(int what) {
    int devices = 0;
    int on = 0;
    int armed = 0;
    for (Item item : world.items) {
      devices += item.kind == 1 ? 1 : 0;
      on += item.kind == 2 && item.count > 0 ? 1 : 0;
      armed += item.armed ? 1 : 0;
    }
    int raised = 0;
    for (int i = 7; i >= 0; i--) {
      raised = 2 * raised + (world.raised[i] ? 1 : 0);
    }
    int[] all = {world.items.size(), devices, world.resting, on, armed, raised, world.reads, world.writes, world.select,
      world.notes.size(), world.switches.size(), steps, kept(), tape.size(), refused[1], refused[2], refused[3], refused[4],
      refused[5], refused[6], refused[7]};
    return what < 0 || what >= all.length ? -1 : all[what];
  }
}
