/** Section 5, and promises 37 to 43: what stands at PORTS. */
public final class PortsTest {
  private static FerriteBoard board = new FerriteBoard();

  /** The machine writes a byte at a port, by one STA of 4 cycles. */
  private static int write(int port, int value) {
    return does(131, value, 1792 + port);
  }

  private static int read(int port) {
    does(35, 0, 1792 + port);
    return board.a();
  }

  private static int does(int code, int a, int address) {
    board.poke(3072, code);
    board.poke(3073, address % 256);
    board.poke(3074, address / 256);
    board.setRegister(0, a);
    board.setRegister(3, 4);
    board.setRegister(4, 3072);
    return board.step();
  }

  private static void plain() {
    board = new FerriteBoard();
    write(0, 255);
    Check.is("BANK", board.bank() + " " + read(0), "7 7");
    write(0, 9);
    Check.is("BANK % 8", board.bank(), 1);
    write(1, 250);
    Check.is("MASK", board.mask() + " " + read(1), "10 10");
    board.setRegister(3, 4);
    board.key(1);
    board.signal();
    Check.is("PENDING", board.pending() + " " + read(2), "6 6");
    write(2, 2 + 16);
    Check.is("taken out", board.pending() + " " + read(2), "4 4");
    write(2, 255);
    Check.is("all taken out", board.pending(), 0);
    for (int port : new int[] {4, 5, 15, 16, 100, 255}) {
      String ahead = state();
      Check.is("writing " + port, write(port, 77), 4);
      Check.is("is lost", state(), ahead);
    }
    Check.is("the others are read as 0", read(16) + " " + read(255) + " " + read(14), "0 0 0");
    for (int port = 10; port < 14; port++) write(port, port * 11);
    write(10, 0);
    write(12, 255);
    Check.is("the other one stays", read(10) + " " + read(11) + " " + read(12) + " " + read(13), "0 121 255 143");
    write(11, 1);
    write(13, 255);
    write(10, 7);
    write(12, 0);
    Check.is("the other one stays", read(10) + " " + read(11) + " " + read(12) + " " + read(13), "7 1 0 255");
    for (int port = 10; port < 14; port++) write(port, port * 11);
    Check.is("FROM and TO", read(10) + " " + read(11) + " " + read(12) + " " + read(13), "110 121 132 143");
    Check.is("nothing is done by byteAt", board.byteAt(1794) + " " + board.byteAt(1802), "0 0");
  }

  private static String state() {
    return board.bank() + " " + board.mask() + " " + board.pending() + " " + board.inputs() + " " + board.outputs() + " " + board.count();
  }

  private static void input() {
    board = new FerriteBoard();
    Check.is("empty", read(4) + " " + read(5), "0 0");
    board.key(7);
    board.key(8);
    board.key(0);
    Check.is("how many", read(5) + " " + board.inputs(), "3 3");
    Check.is("first first", read(4) + " " + read(4) + " " + board.inputs() + " " + read(4) + " " + read(4), "7 8 1 0 0");
    Check.is("PENDING stays", board.pending(), 2);
    for (int i = 0; i < 16; i++) board.key(i);
    Check.is("room again", read(4) + " " + board.key(99), "0 16");
    board.back(1);
    for (int i = 1; i < 16; i++) Check.is("in order", read(4), i);
    Check.is("the last", read(4) + " " + board.inputs(), "99 0");
    board.key(5);
    read(4);
    Check.is("taken back", board.back(1) + " " + board.inputs() + " " + read(4), "1 1 5");
  }

  private static void output() {
    board = new FerriteBoard();
    Check.refusedBy(board, "outputAt", "IndexOutOfBoundsException", () -> board.outputAt(0));
    for (int i = 0; i < 41; i++) {
      write(3, i * 7 % 256);
      Check.is("outputs", board.outputs() + " " + board.outputAt(0), i + 1 + " " + i * 7 % 256);
    }
    for (int i = 0; i < 40; i++) Check.is("outputAt " + i, board.outputAt(i), (40 - i) * 7 % 256);
    Check.refusedBy(board, "outputAt", "IndexOutOfBoundsException", () -> board.outputAt(40));
    Check.refusedBy(board, "outputAt", "IndexOutOfBoundsException", () -> board.outputAt(-1));
    Check.is("read", read(3) + " " + board.outputs(), "41 41");
    FerriteBoard many = Check.ready("a: STA 1795\nBRA a");
    many.run(5000);
    Check.is("outputs of 7 cycles each", many.outputs(), 715);
    many.poke(3072, 35);
    many.setRegister(4, 3072);
    many.step();
    Check.is("read % 256", many.a(), 715 % 256);
  }

  private static void timer() {
    board = new FerriteBoard();
    write(6, 20);
    write(7, 1);
    Check.is("RELOAD is not COUNT", board.count() + " " + read(6) + " " + read(7), "0 0 0");
    write(8, 1);
    Check.is("the step itself counts", board.count(), 276 - 4);
    Check.is("read", read(6) + " " + board.count(), 272 % 256 + " " + 268);
    Check.is("read high", read(7) + " " + read(8), "1 1");
    int ahead = board.count();
    write(8, 3);
    Check.is("bit 1 was in it", board.count(), ahead - 4);
    write(8, 2);
    ahead = board.count();
    write(6, 10);
    Check.is("it stands", board.count() + " " + read(8), ahead + " 2");
    write(7, 0);
    write(8, 7);
    Check.is("again", board.count() + " " + read(8), "6 3");
    Check.is("read took 4", board.count() + " " + board.pending(), "2 0");
    read(0);
    Check.is("it came to 0", board.pending() + " " + board.count() + " " + read(8), "1 8 3");
    write(8, 2);
    write(2, 255);
    write(8, 1);
    Check.is("once", board.count() + " " + board.pending(), "6 0");
    read(0);
    read(0);
    Check.is("it ends", board.count() + " " + board.pending() + " " + read(8), "0 1 0");
    write(6, 0);
    write(8, 3);
    Check.is("65536 for 0", board.count(), 65536 - 4);
    write(6, 1);
    write(8, 0);
    write(8, 3);
    Check.is("each cycle", board.count() + " " + board.pending(), "1 1");
    FerriteBoard full = Check.ready("LDA #1\nSTA 1800\nLDA 1799\nLDX 1798");
    full.run(6);
    Check.is("one less than 65536", full.count(), 65532);
    full.run(4);
    Check.is("COUNT / 256", full.a(), 255);
  }

  private static void readOfFullCount() {
    board = new FerriteBoard();
    write(6, 8);
    write(8, 3);
    Check.is("4 cycles are left", board.count(), 4);
    write(6, 0);
    Check.is("behind the last of them", board.count() + " " + board.pending(), "65536 1");
    Check.is("65536 / 256 % 256", read(7) + " " + board.count(), "0 65532");
    Check.is("read", read(7) + " " + read(6), "255 248");
  }

  private static void random() {
    board = new FerriteBoard();
    int v = 1;
    for (int i = 0; i < 40; i++) {
      v = (v & 1) != 0 ? v / 2 ^ 46080 : v / 2;
      Check.is("RANDOM " + i, read(9), v % 256);
    }
    write(9, 6);
    Check.is("b + 256", read(9) + " " + read(9), "131 65");
    does(147, 0, 1801);
    Check.is("INC reads and writes", read(9), (261 / 2 ^ 46080) % 256 == 0 ? 0 : next());
  }

  /** Behind 6: 262, 131, 46080 ^ 65; INC reads the next one, writes it and 1 more. */
  private static int next() {
    int v = (46080 ^ 65) / 2 ^ 46080;
    int written = (v % 256 + 1) % 256 + 256;
    return ((written & 1) != 0 ? written / 2 ^ 46080 : written / 2) % 256;
  }

  private static void from(int from, int to) {
    write(10, from % 256);
    write(11, from / 256);
    write(12, to % 256);
    write(13, to / 256);
  }

  private static void copier() {
    board = new FerriteBoard();
    for (int i = 0; i < 10; i++) board.poke(100 + i, i + 1);
    from(100, 200);
    Check.is("told 0", write(14, 0) + " " + board.pending() + " " + board.byteAt(200), "4 0 0");
    Check.is("told 5", write(14, 5) + " " + board.pending(), "14 8");
    Check.is("copied", board.byteAt(200) + " " + board.byteAt(204) + " " + board.byteAt(205), "1 5 0");
    Check.is("FROM and TO stay", read(10) + " " + read(12), "100 200");
    from(100, 101);
    write(14, 3);
    Check.is("one behind the other", board.byteAt(101) + " " + board.byteAt(102) + " " + board.byteAt(103) + " " + board.byteAt(104), "1 1 1 5");
    from(1790, 300);
    board.poke(1791, 9);
    board.poke(301, 7);
    board.poke(302, 7);
    write(14, 3);
    Check.is("PORTS are 0", board.byteAt(301) + " " + board.byteAt(302), "9 0");
    from(100, 1791);
    Check.is("to PORTS takes as long", write(14, 4), 12);
    Check.is("to PORTS is lost", board.byteAt(1791) + " " + board.outputs() + " " + board.mask(), "1 0 0");
    from(100, 4094);
    write(14, 4);
    Check.is("to ROM is lost, behind it is 0", board.byteAt(4095) + " " + board.byteAt(0) + " " + board.byteAt(1), "0 1 1");
    from(4094, 300);
    board.poke(4095, 66);
    write(14, 3);
    Check.is("from the end", board.byteAt(300) + " " + board.byteAt(301) + " " + board.byteAt(302), "0 66 1");
    from(65535, 50);
    write(14, 2);
    Check.is("65535 is 4095", board.byteAt(50) + " " + board.byteAt(51), "66 1");
    board = new FerriteBoard();
    board.poke(109, 10);
    for (int bank = 0; bank < 8; bank++) {
      write(0, bank);
      from(109, 2049);
      write(14, 1);
      Check.is("into bank " + bank, board.byteIn(bank, 1), bank < 4 ? 10 : 0);
    }
    board = new FerriteBoard();
    board.poke(5, 3);
    from(0, 100);
    Check.is("INC of port 14 tells 1", does(147, 0, 1806) + " " + board.pending(), "7 8");
    write(8, 1);
    int count = board.count();
    write(14, 200);
    Check.is("the timer goes by all cycles", count - board.count(), 404);
  }

  private static void lost() {
    board = new FerriteBoard();
    for (int bank = 0; bank < 8; bank++) {
      write(0, bank);
      for (int address : new int[] {2048, 2500, 3071}) {
        does(131, 99, address);
        Check.is("written into bank " + bank, board.byteAt(address), bank < 4 ? 99 : 0);
      }
    }
    does(131, 99, 4000);
    Check.is("ROM", board.byteAt(4000), 0);
    does(131, 99, 1791);
    Check.is("RAM", board.byteAt(1791), 99);
  }

  public static void main(String[] args) {
    plain();
    input();
    output();
    timer();
    readOfFullCount();
    random();
    copier();
    lost();
    Check.finish();
  }
}
