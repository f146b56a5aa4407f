/** Promises 7, 15 and 18: numbers and fields, stored by hand and by methods; what nodes tell. */
public final class RegisterTest {
  private static final Check check = new Check("RegisterTest");

  public static void main(String[] args) {
    numbers();
    rules();
    widths();
    window();
    byMethods();
    nodesTell();
    check.finish();
  }

  private static void numbers() {
    RestBoard x = Check.board(Check.number('n', 7), Check.lock('l'), Check.number('i', 0));
    check.due("what it was", x.store(1, 65535), 7);
    check.due("what it is", x.node(1, 8), 65535);
    check.due("65536", x.store(1, 65536), -1);
    check.due("-1", x.store(1, -1), -1);
    check.due("-1 ahead of -2", x.store(2, -1), -1);
    check.due("a lock", x.store(2, 1), -2);
    check.due("no node", x.store(4, 1), -2);
    check.due("no node", x.store(-4, 1), -2);
    check.due("the root", x.store(0, 1), -2);
    check.due("status", x.status(), -2);
    check.due("no reads, no writes", x.count(6) + x.count(7), 0);
    x.rest(1);
    check.due("at rest", x.store(1, 1), -3);
    check.due("-2 ahead of -3", x.store(2, 1), -2);
    check.due("nothing was stored", x.node(1, 8), 65535);
  }

  private static void rules() {
    RestBoard x = Check.board(Check.field('b', 1, 0, 16, 0), Check.field('c', 1, 6, 4, 0), Check.field('d', 1, 6, 4, 1),
        Check.field('e', 1, 6, 4, 2), Check.field('f', 2, 0, 8, 0));
    check.due("whole bytes", x.store(1, 0xffff), 0);
    check.due("whole bytes: reads", x.count(6), 0);
    check.due("whole bytes: writes", x.count(7), 3);
    check.due("select", x.count(8), 1);
    check.due("rule 0", x.store(2, 0x26), 15);
    check.due("cut to its width", x.node(2, 8), 6);
    check.due("the first is worth 1", x.register(1, 0), 0xbf);
    check.due("the other byte", x.register(1, 1), 0xfd);
    check.due("rule 0: reads", x.count(6), 2);
    check.due("rule 0: writes", x.count(7), 6);
    check.due("rule 2", x.store(4, 9), 6);
    check.due("rule 2: others are 0", x.register(1, 0), 0x40);
    check.due("rule 2: others are 0", x.register(1, 1), 0x02);
    check.due("rule 1", x.store(3, 6), 9);
    check.due("rule 1: others are 1", x.register(1, 0), 0xbf);
    check.due("rule 1: others are 1", x.register(1, 1), 0xfd);
    check.due("rules 1, 2: reads", x.count(6), 2);
    check.due("rules 1, 2: writes", x.count(7), 12);
    check.due("another bank", x.store(5, 1), 0);
    check.due("select", x.count(8), 2);
    check.due("writes", x.count(7), 14);
    check.due("no read for what it was", x.count(6), 2);
    check.due("the first bank is as it was", x.node(1, 8), 0xfdbf);
  }

  private static void widths() {
    RestBoard x = Check.board(Check.field('a', 3, 7, 16, 0), Check.field('b', 3, 48, 16, 1), Check.field('c', 3, 63, 1, 2),
        Check.field('d', 3, 0, 1, 0));
    check.due("three bytes", x.store(1, 0xabcd), 0);
    check.due("byte 0", x.register(3, 0), 0x80);
    check.due("byte 1", x.register(3, 1), 0xe6);
    check.due("byte 2", x.register(3, 2), 0x55);
    check.due("reads", x.count(6), 2);
    check.due("writes", x.count(7), 4);
    check.due("value", x.node(1, 8), 0xabcd);
    check.due("the last two", x.store(2, 0x1234), 0);
    check.due("byte 6", x.register(3, 6), 0x34);
    check.due("byte 7", x.register(3, 7), 0x12);
    check.due("one bit", x.store(3, 3), 0);
    check.due("byte 7", x.register(3, 7), 0x80);
    check.due("one bit, cut", x.store(4, 2), 0);
    check.due("byte 0", x.register(3, 0), 0x80);
    x = Check.board(Check.field('a', 0, 1, 8, 0), Check.field('b', 0, 8, 1, 0));
    x.store(1, 255);
    check.due("bank 0", x.register(0, 0), 254);
    check.due("one bit of the next byte", x.register(0, 1), 1);
    check.due("two bytes are read", x.count(6), 2);
    check.due("one bit", x.node(2, 8), 1);
    check.due("no bank 5", x.register(5, 0), -1);
    check.due("no bank -1", x.register(-1, 0), -1);
    check.due("no byte 8", x.register(0, 8), -1);
    check.due("no byte -1", x.register(4, -1), -1);
  }

  private static void window() {
    RestBoard x = Check.board(Check.field('a', 4, 0, 8, 0), Check.field('b', 4, 4, 8, 0), Check.field('c', 3, 0, 8, 0));
    x.store(3, 200);
    check.due("select", x.count(8), 3);
    x.store(1, 255);
    check.due("the window does not select", x.count(8), 3);
    check.due("writes", x.count(7), 3);
    check.due("the window", x.register(4, 0), 255);
    check.due("the bank", x.register(3, 0), 200);
    x.store(2, 0);
    check.due("reads", x.count(6), 2);
    check.due("writes", x.count(7), 5);
    check.due("the window", x.register(4, 0), 15);
  }

  private static void byMethods() {
    RestBoard x = Check.board(Check.field('a', 0, 4, 8, 0), Check.field('b', 2, 0, 8, 0), Check.field('w', 4, 0, 16, 0),
        Check.method('r', 0, 22, 7, 0, 4, 'a', 4, 'b'), Check.method('s', 1, 17, 'a', 3, 0), Check.method('t', 0, 22, 4, 'w'));
    x.call(4, 0, 0, 0);
    check.due("reads", x.count(6), 3);
    check.due("a select is a write, even of what is selected", x.count(7), 2);
    check.due("select", x.count(8), 2);
    x.call(5, 0x1ff, 0, 0);
    check.due("cut", x.node(1, 8), 255);
    check.due("reads", x.count(6), 5);
    check.due("writes", x.count(7), 5);
    check.due("select", x.count(8), 0);
    x.call(6, 0, 0, 0);
    check.due("window's reads", x.count(6), 7);
    check.due("window's writes", x.count(7), 5);
    check.due("select", x.count(8), 0);
    x.node(1, 8);
    x.register(0, 0);
    check.due("no reads", x.count(6), 7);
  }

  /** Due are the answers of node(node, what) that are not NONE, as what, answer, what, answer .. */
  private static void tells(RestBoard x, int node, int... due) {
    for (int what = -1; what <= 40; what++) {
      int want = -1;
      for (int i = 0; i < due.length; i += 2) {
        want = due[i] == what ? due[i + 1] : want;
      }
      check.due("node(" + node + ", " + what + ")", x.node(node, what), want);
    }
  }

  private static void nodesTell() {
    RestBoard x = Check.board(Check.device('d', Check.pack('w', 7, 4, 'a')), Check.resource('a', 3, 8), Check.method('m', 2, 22, 3, 1),
        Check.number('n', 300), Check.pack('p', 9, 8, 65535), Check.field('f', 4, 5, 6, 1), Check.lock('l'), Check.pack('q'),
        Check.pack('r', 1, 2, 3, 4, 5, 6));
    tells(x, -1);
    tells(x, 0, 0, 1, 1, 0, 30, 0, 31, 0);
    tells(x, 1, 0, 1, 1, 'd', 2, 0, 30, 3, 31, 0);
    tells(x, 2, 0, 5, 1, 'w', 2, 1, 9, 3, 10, 7, 11, 4, 12, 'a');
    tells(x, 3, 0, 2, 1, 'a', 2, 0, 3, 3, 4, 8, 5, 0);
    tells(x, 4, 0, 3, 1, 'm', 2, 0, 6, 2, 7, 3);
    tells(x, 5, 0, 4, 1, 'n', 2, 0, 8, 300);
    tells(x, 6, 0, 5, 1, 'p', 2, 0, 9, 3, 10, 9, 11, 8, 12, 65535);
    tells(x, 7, 0, 6, 1, 'f', 2, 0, 8, 0, 20, 4, 21, 5, 22, 6, 23, 1);
    tells(x, 8, 0, 7, 1, 'l', 2, 0, 24, 0);
    tells(x, 9, 0, 5, 1, 'q', 2, 0, 9, 0);
    tells(x, 10, 0, 5, 1, 'r', 2, 0, 9, 6, 10, 1, 11, 2, 12, 3, 13, 4, 14, 5, 15, 6);
    tells(x, 11);
    x.arm(1);
    tells(x, 1, 0, 1, 1, 'd', 2, 0, 30, 3, 31, 1, 32, 7, 33, 4);
    tells(x, 3, 0, 2, 1, 'a', 2, 0, 3, 3, 4, 8, 5, 1);
  }
}
