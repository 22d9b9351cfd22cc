/** Section 5 of the document, sentence by sentence: what each port does at the ends of a byte and of a word. */
public final class EdgesPortsTest {
  private static final int[] EDGES = {0, 1, 2, 3, 7, 8, 9, 15, 16, 17, 31, 127, 128, 254, 255};

  private static int port(FerriteBoard board, int port) {
    return Bench.read(board, 1792 + port);
  }

  private static void port(FerriteBoard board, int port, int value) {
    Bench.write(board, 1792 + port, value);
  }

  private static void word(FerriteBoard board, int port, int word) {
    port(board, port, word % 256);
    port(board, port + 1, word / 256);
  }

  private static void fromTo(FerriteBoard board, int from, int to) {
    word(board, 10, from);
    word(board, 12, to);
  }

  /** What is told of PORTS from outside. */
  private static String told(FerriteBoard board) {
    return Bench.all(board.bank(), board.mask(), board.pending(), board.count(), board.inputs(), board.outputs());
  }

  /** "the others, from 1792 + 16 on, are read as 0, and what is written there is lost" */
  private static void others() {
    for (int port : new int[] {16, 17, 18, 19, 20, 22, 24, 30, 31, 32, 64, 128, 240, 254, 255}) {
      FerriteBoard board = new FerriteBoard();
      board.key(7);
      board.key(8);
      port(board, 0, 5);
      String ahead = told(board);
      port(board, port, 255);
      Check.is("writing port " + port, told(board), ahead);
      Check.is("reading port " + port, Bench.all(port(board, port), told(board), board.byteAt(1792 + port)), "0 " + ahead + " 0");
      Bench.increase(board, 1792 + port);
      Check.is("both at port " + port, told(board), ahead);
    }
    FerriteBoard ends = new FerriteBoard();
    ends.poke(1791, 66);
    ends.poke(2048, 67);
    Check.is("beside PORTS", Bench.all(Bench.read(ends, 1791), Bench.read(ends, 2048)), "66 67");
  }

  /** "At first, and by reset(), all of this is 0, the RANDOM number is 1, and INPUT and OUTPUT are empty." */
  private static void atFirstAndByReset() {
    FerriteBoard board = new FerriteBoard();
    allOfThisIsNothing(board, "at first");
    board = new FerriteBoard();
    for (int port : new int[] {3, 0, 1, 6, 7, 9, 10, 11, 12, 13, 14, 8}) port(board, port, 7);
    board.key(1);
    Check.is("something ahead", board.count() > 0 && board.pending() > 0 && board.outputs() > 0, true);
    board.reset();
    allOfThisIsNothing(board, "by reset()");
  }

  private static void allOfThisIsNothing(FerriteBoard board, String when) {
    Check.is(when, told(board), "0 0 0 0 0 0");
    Check.refused(when, "IndexOutOfBoundsException", () -> board.outputAt(0));
    for (int port = 0; port < 15; port++) {
      if (port != 9) Check.is("port " + port + " " + when, port(board, port), 0);
    }
    Check.is("cycles of port 15 " + when, port(board, 15), 14 * 4);
    int v = 46080;
    for (int i = 0; i < 10; i++) {
      Check.is("RANDOM " + when, port(board, 9), v % 256);
      v = v % 2 == 1 ? v / 2 ^ 46080 : v / 2;
    }
    port(board, 8, 1);
    Check.is("RELOAD " + when, board.count(), 65532);
  }

  /** "0: BANK; a byte b that is written makes it b % 8.   1: MASK; b % 16." */
  private static void bankAndMask() {
    for (int b : EDGES) {
      FerriteBoard board = new FerriteBoard();
      port(board, 0, b);
      port(board, 1, b);
      Check.is("BANK, MASK of " + b, Bench.all(board.bank(), port(board, 0), board.mask(), port(board, 1)), Bench.all(b % 8, b % 8, b % 16, b % 16));
    }
  }

  /** "2: PENDING; the bits of b that is written are taken out of it." */
  private static void pending() {
    for (int b = 0; b < 256; b += b < 18 ? 1 : 17) {
      FerriteBoard board = new FerriteBoard();
      board.key(1);
      board.signal();
      port(board, 14, 1);
      word(board, 6, 1);
      port(board, 8, 1);
      Check.is("all four", Bench.all(board.pending(), port(board, 2)), "15 15");
      port(board, 2, b);
      Check.is("without " + b, Bench.all(board.pending(), port(board, 2)), Bench.all(15 & ~b, 15 & ~b));
    }
    FerriteBoard none = new FerriteBoard();
    port(none, 2, 255);
    Check.is("nothing comes into it so", none.pending(), 0);
  }

  /** "3: OUTPUT: what is written comes behind what was; read: how many there are, % 256." */
  private static void output() {
    FerriteBoard loop = Bench.at(600, Bench.STA + 3, 3, 7, Bench.BRA, 251);
    for (int outputs : new int[] {255, 256, 257, 512}) {
      while (loop.outputs() < outputs) loop.run((outputs - loop.outputs()) * 7 > 5000 ? 5000 : (outputs - loop.outputs()) * 7);
      Check.is(outputs + " outputs", Bench.all(loop.outputs(), port(loop, 3)), Bench.all(outputs, outputs % 256));
    }
    FerriteBoard board = new FerriteBoard();
    for (int i = 0; i < EDGES.length; i++) {
      port(board, 3, EDGES[i]);
      Check.is("the latest", Bench.all(board.outputs(), board.outputAt(0), board.outputAt(i)), Bench.all(i + 1, EDGES[i], EDGES[0]));
    }
    Check.is("reading adds nothing", Bench.all(port(board, 3), board.outputs()), Bench.all(EDGES.length, EDGES.length));
  }

  /** "4: INPUT: read: the first byte of it, which is gone then, or 0 if it is empty" and 5. */
  private static void input() {
    FerriteBoard board = new FerriteBoard();
    Check.is("empty", Bench.all(port(board, 5), port(board, 4), port(board, 5), board.inputs()), "0 0 0 0");
    for (int i = 0; i < 16; i++) board.key(255 - i);
    Check.is("full", Bench.all(port(board, 5), board.inputs()), "16 16");
    port(board, 4, 9);
    port(board, 5, 9);
    Check.is("what is written is lost", Bench.all(port(board, 5), board.inputs()), "16 16");
    for (int i = 0; i < 16; i++) {
      Check.is("the first byte " + i, Bench.all(port(board, 4), port(board, 5), board.inputs()), Bench.all(255 - i, 15 - i, 15 - i));
    }
    Check.is("empty again", Bench.all(port(board, 4), port(board, 5), board.inputs(), board.key(3), port(board, 4)), "0 0 0 1 3");
    FerriteBoard both = new FerriteBoard();
    both.key(7);
    both.key(200);
    Bench.increase(both, 1796);
    Check.is("INC takes the first one", Bench.all(both.inputs(), port(both, 4)), "1 200");
  }

  /** "6, 7: read: COUNT % 256, COUNT / 256; what is written becomes RELOAD % 256, RELOAD / 256 (the other one stays)." */
  private static void reload() {
    for (int low : new int[] {0, 1, 128, 255}) {
      for (int high : new int[] {0, 1, 255}) {
        FerriteBoard board = new FerriteBoard();
        port(board, 6, low);
        port(board, 7, high);
        startsAt(board, low + 256 * high);
        FerriteBoard other = new FerriteBoard();
        port(other, 7, high);
        port(other, 6, low);
        startsAt(other, low + 256 * high);
        port(other, 7, 77);
        startsAt(other, low + 256 * 77);
        port(other, 6, 5);
        startsAt(other, 5 + 256 * 77);
      }
    }
  }

  /** "If bit 1 is in it then and was not ahead of it, COUNT becomes RELOAD, or 65536, if RELOAD is 0" */
  private static void startsAt(FerriteBoard board, int reload) {
    int due = reload == 0 ? 65536 : reload;
    port(board, 8, 0);
    port(board, 8, 1);
    Check.is("COUNT by RELOAD of " + reload, board.count(), due <= 4 ? 0 : due - 4);
  }

  private static void control() {
    for (int ahead = 0; ahead < 4; ahead++) {
      for (int b : EDGES) {
        FerriteBoard board = new FerriteBoard();
        word(board, 6, 1000);
        port(board, 8, ahead);
        Check.is("COUNT behind " + ahead, board.count(), ahead % 2 == 1 ? 996 : 0);
        word(board, 6, 500);
        port(board, 8, b);
        boolean starts = b % 2 == 1 && ahead % 2 == 0;
        int stood = ahead % 2 == 1 ? 996 - 8 : 0;
        int due = starts ? 496 : b % 2 == 1 ? stood - 4 : stood;
        Check.is("CONTROL " + ahead + ", then " + b, Bench.all(board.count(), port(board, 8)), Bench.all(due, b % 4));
      }
    }
  }

  /** "(read, 7 tells COUNT / 256 % 256)" and all words that 6 and 7 can tell. */
  private static void countRead() {
    int[] counts = {65536, 65535, 65281, 65280, 65279, 512, 511, 257, 256, 255, 254, 1};
    for (int count : counts) {
      int due = count % 65536;
      Check.is("COUNT of " + count, Bench.all(standing(count).count(), port(standing(count), 6), port(standing(count), 7)),
          Bench.all(count, due % 256, due / 256));
    }
  }

  /** A timer that stands at a count: it was stopped there. */
  private static FerriteBoard standing(int count) {
    FerriteBoard board = new FerriteBoard();
    if (count + 4 < 65536) {
      word(board, 6, count + 4);
      port(board, 8, 1);
    } else {
      // it comes to 0, and so to 65536, within the step that makes RELOAD 0
      word(board, 6, 8 - (65536 - count));
      port(board, 8, 3);
      port(board, 6, 0);
    }
    port(board, 8, 0);
    return board;
  }

  /** "as it gets 0, bit 1 comes into PENDING; then, if bit 2 is in CONTROL, COUNT becomes RELOAD (65536 for 0); otherwise bit 1 is taken out" */
  private static void timer() {
    for (int reload = 1; reload <= 13; reload++) {
      for (int control : new int[] {1, 3}) {
        FerriteBoard board = new FerriteBoard();
        word(board, 6, reload);
        port(board, 8, control);
        for (int cycles = 4; cycles <= 12; cycles += 4) {
          boolean rung = cycles >= reload;
          int left = reload - cycles;
          if (control == 3) left = reload - cycles % reload;
          String due = Bench.all(rung ? 1 : 0, control == 1 && rung ? 0 : left);
          Check.is(cycles + " cycles of " + reload + " with " + control, Bench.all(board.pending(), board.count()), due);
          board.setRegister(4, 900);
          Bench.steps(board, 4);
        }
        Check.is("CONTROL behind " + reload, port(board, 8), control == 3 ? 3 : 16 < reload ? 1 : 0);
      }
    }
    FerriteBoard taken = new FerriteBoard();
    word(taken, 6, 2);
    port(taken, 8, 3);
    port(taken, 2, 1);
    Check.is("PENDING of the step that takes it out", taken.pending(), 1);
    FerriteBoard zero = new FerriteBoard();
    word(zero, 6, 6);
    port(zero, 8, 3);
    port(zero, 6, 0);
    Check.is("65536 for 0", zero.count(), 65536 - 2);
    FerriteBoard stands = new FerriteBoard();
    word(stands, 6, 6);
    port(stands, 8, 2);
    Check.is("bit 2 alone", Bench.all(stands.count(), stands.pending(), port(stands, 8), stands.count()), "0 0 2 0");
    FerriteBoard stopped = new FerriteBoard();
    word(stopped, 6, 100);
    port(stopped, 8, 3);
    port(stopped, 8, 2);
    Check.is("bit 1 was taken out", Bench.all(stopped.count(), port(stopped, 8), stopped.count()), "96 2 96");
    port(stopped, 8, 3);
    Check.is("and is in it again", stopped.count(), 96);
    FerriteBoard full = Bench.at(2100, Bench.WAI);
    port(full, 8, 1);
    for (int i = 0; i < 13; i++) full.run(5000);
    Check.is("65004 cycles", Bench.all(full.cycles(), full.count(), full.pending()), "65004 532 0");
    full.run(531);
    Check.is("one is left", Bench.all(full.count(), full.pending()), "1 0");
    full.run(1);
    Check.is("65536 cycles", Bench.all(full.count(), full.pending()), "0 1");
    full.run(9);
    Check.is("it ended", Bench.all(full.count(), full.pending()), "0 1");
  }

  /** "the RANDOM number v becomes v / 2, and if v was odd, that ^ 46080; a byte b that is written makes it b + 256" */
  private static void random() {
    for (int b : EDGES) {
      FerriteBoard board = new FerriteBoard();
      port(board, 9, b);
      int v = b + 256;
      for (int i = 0; i < 20; i++) {
        v = v % 2 == 1 ? v / 2 ^ 46080 : v / 2;
        Check.is("RANDOM behind " + b + ", " + i, port(board, 9), v % 256);
      }
    }
  }

  /** "FROM % 256, FROM / 256, TO % 256, TO / 256, of two words that are 0 to 65535; written and read" */
  private static void fromAndTo() {
    for (int first = 0; first < 4; first++) {
      FerriteBoard board = new FerriteBoard();
      for (int i = 0; i < 4; i++) port(board, 10 + i, 255);
      port(board, 10 + first, 0);
      for (int i = 0; i < 4; i++) Check.is("port " + (10 + i), port(board, 10 + i), i == first ? 0 : 255);
      port(board, 10 + first, 1);
      for (int i = 0; i < 4; i++) Check.is("port " + (10 + i), port(board, 10 + i), i == first ? 1 : 255);
    }
  }

  /** "the byte at FROM + i is copied to TO + i, for i of 0 to b - 1, one behind the other" */
  private static void copier() {
    int[][] ways = {{100, 300}, {300, 100}, {100, 101}, {101, 100}, {1785, 100}, {100, 1785}, {2040, 100}, {100, 2040}, {3065, 100}, {100, 3065},
        {4090, 100}, {100, 4090}, {65530, 100}, {100, 65530}, {4096 + 100, 8192 + 300}, {1785, 2040}, {4090, 4091}, {1790, 1789}};
    for (int[] way : ways) {
      for (int b : new int[] {0, 1, 2, 20, 255}) copied(way[0], way[1], b);
    }
  }

  private static void copied(int from, int to, int b) {
    FerriteBoard board = new FerriteBoard();
    for (int i = 0; i < 20; i++) Bench.put(board, (from + i) % 4096, 1 + i);
    fromTo(board, from, to);
    int[] due = new int[4096];
    for (int i = 0; i < 20; i++) {
      int s = (from + i) % 4096;
      due[s] = s >= 1792 && s < 2048 ? 0 : 1 + i;
    }
    for (int i = 0; i < b; i++) {
      int s = (from + i) % 4096;
      int t = (to + i) % 4096;
      if (t < 1792 || t >= 2048 && t < 3072) due[t] = due[s];
    }
    port(board, 14, b);
    for (int i : new int[] {-1, 0, 1, 2, 4, 5, 6, 7, 8, 9, 18, 19, 20, 21, 253, 254, 255, 256}) {
      int t = (to + i + 4096) % 4096;
      Check.is(b + " bytes from " + from + " to " + to + ": " + t, board.byteAt(t), due[t]);
    }
    Check.is("\"if b is not 0, bit 8 comes into PENDING\"", board.pending(), b == 0 ? 0 : 8);
    Check.is("ports stay", Bench.all(board.bank(), board.mask(), board.count(), board.inputs(), board.outputs()), "0 0 0 0 0");
    Check.is("read: 0", Bench.all(port(board, 14), board.pending()), Bench.all(0, b == 0 ? 0 : 8));
    Check.is("FROM and TO stay", port(board, 10) + 256 * port(board, 11) + " " + (port(board, 12) + 256 * port(board, 13)), from % 65536 + " " + to % 65536);
  }

  /** "what goes ... to the banks 4 to 7 is lost", and what comes from any bank is there. */
  private static void copierAndBanks() {
    for (int bank = 0; bank < 8; bank++) {
      FerriteBoard board = new FerriteBoard();
      port(board, 0, bank);
      board.poke(3071, 99);
      board.poke(40, 55);
      fromTo(board, 3071, 50);
      port(board, 14, 1);
      Check.is("from bank " + bank, board.byteAt(50), 99);
      fromTo(board, 40, 2048);
      port(board, 14, 1);
      Check.is("into bank " + bank, Bench.all(board.byteAt(2048), board.byteIn(bank, 0)), bank < 4 ? "55 55" : "0 0");
    }
    FerriteBoard input = new FerriteBoard();
    input.key(9);
    input.poke(60, 5);
    fromTo(input, 1796, 60);
    port(input, 14, 1);
    Check.is("\"bytes of PORTS are taken as 0\"", Bench.all(input.byteAt(60), input.inputs()), "0 1");
    FerriteBoard last = new FerriteBoard();
    last.poke(2048, 7);
    last.poke(60, 5);
    last.poke(61, 5);
    fromTo(last, 2047, 60);
    port(last, 14, 2);
    Check.is("behind PORTS", Bench.all(last.byteAt(60), last.byteAt(61)), "0 7");
  }

  /** "15: read: how many cycles there were ahead of this step, % 256; what is written is lost" */
  private static void cyclesPort() {
    for (int cycles : new int[] {0, 1, 254, 255, 256, 257, 511, 512, 4999}) {
      FerriteBoard board = Bench.at(2100, Bench.NOP);
      if (cycles > 0) board.run(cycles);
      Check.is("NOPs", board.cycles(), cycles);
      Check.is("ahead of the step", port(board, 15), cycles % 256);
      port(board, 15, 9);
      Check.is("lost", port(board, 15), (cycles + 8) % 256);
    }
    FerriteBoard inc = Bench.at(2100, Bench.NOP);
    inc.run(9);
    Bench.increase(inc, 1807);
    Check.is("INC there", Bench.all(inc.cycles(), told(inc)), "14 0 0 0 0 0 0");
  }

  public static void main(String[] args) {
    others();
    atFirstAndByReset();
    bankAndMask();
    pending();
    output();
    input();
    reload();
    control();
    countRead();
    timer();
    random();
    fromAndTo();
    copier();
    copierAndBanks();
    cyclesPort();
    Check.finish();
  }
}
