/** Promises 1 and 10 to 15, 27 to 37: a new object, what comes from outside, and what is told. */
public final class OutsideTest {
  private static String registers(FerriteBoard board) {
    return board.a() + " " + board.x() + " " + board.s() + " " + board.flags() + " " + board.pc() + " " + board.state();
  }

  private static String ports(FerriteBoard board) {
    return board.bank() + " " + board.mask() + " " + board.pending() + " " + board.count() + " " + board.inputs() + " " + board.outputs();
  }

  private static void fresh() {
    FerriteBoard board = new FerriteBoard();
    Check.is("registers", registers(board), "0 0 255 4 0 0");
    Check.is("ports", ports(board), "0 0 0 0 0 0");
    Check.is("counts", board.cycles() + " " + board.instructions() + " " + board.hottest() + " " + board.calls(), "0 0 -1 0");
    Check.is("text", board.names() + " " + board.errorAt() + " " + board.trim(0), "0 -1 0");
    Check.is("debugger", board.stopped() + " " + board.history() + " " + board.clearWatches(), "0 0 0");
    for (int i = 0; i < 4096; i += 39) Check.is("memory", board.byteAt(i) + board.lineOf(i), -1);
    for (int b = 0; b < 8; b++) for (int i = 0; i < 1024; i += 93) Check.is("bank", board.byteIn(b, i), 0);
    for (int i = 0; i < 4096; i += 100) Check.is("break", board.clearBreak(i), -1);
    Check.is("nmi", board.nmi(), false);
    Check.is("mean", board.meanCycles(), 0.0);
    Check.is("two of them", new FerriteBoard().digest(), new FerriteBoard().digest());
  }

  private static void reset() {
    FerriteBoard board = Check.ready("LDA #3\nSTA 1792\nSTA 1793\nSTA 1795\nSTA 1798\nSTA 1800\nSTA 1802\nSTA 1806\nLDX #9\nJSR 9\n.org 4080\n.word 12345");
    board.key(5);
    board.signal();
    for (int i = 0; i < 12; i++) board.step();
    board.setBreak(7, 2);
    board.setWatch(7, 8, true, true);
    board.run(1);
    board.nmi();
    board.poke(40, 99);
    Check.is("ahead of it", board.a() > 0 && board.x() > 0 && board.s() < 255 && board.bank() > 0 && board.mask() > 0 && board.outputs() > 0 && board.calls() > 0 && board.hottest() >= 0, true);
    Check.is("reset", board.reset(), 12345 % 4096);
    Check.is("registers", registers(board), "0 0 255 4 57 0");
    Check.is("ports", ports(board), "0 0 0 0 0 0");
    Check.is("counts", board.cycles() + " " + board.instructions() + " " + board.hottest() + " " + board.calls() + " " + board.timesAt(3072), "0 0 -1 0 0");
    Check.is("debugger", board.stopped() + " " + board.history(), "0 0");
    Check.is("breaks and watches stay", board.clearBreak(7) + " " + board.clearWatches(), "2 1");
    Check.is("memory stays", board.byteAt(40) + " " + board.byteAt(4080), "99 57");
    Check.is("no NMI", board.nmi(), false);
    // FROM, TO, RELOAD and RANDOM as well
    StringBuilder set = new StringBuilder("\nset: ");
    for (int port = 6; port < 14; port++) set.append("LDA #3\nSTA 1792+").append(port).append('\n');
    board = Check.assembled("LDA 1802\nSTA 1795\nLDA 1804\nSTA 1795\nLDA #1\nSTA 1800\nLDA 1801\nSTA 1795\nLDA 1803\nSTA 1795\nLDA 1805\n"
        + "STA 1795\nHLT" + set + "HLT\n.org 4080\n.word 3072");
    board.setRegister(4, board.valueOf(0));
    board.run(5000);
    Check.is("all is set", board.state() + " " + (board.count() > 0), "2 true");
    board.reset();
    board.run(22);
    Check.is("COUNT becomes 65536", board.count(), 65536 - 4);
    board.run(5000);
    for (int i = 0; i < 5; i++) Check.is("RANDOM is 1 at first, FROM and TO are 0", board.outputAt(i), 0);
  }

  private static void keys() {
    FerriteBoard board = new FerriteBoard();
    for (int i = 1; i <= 16; i++) Check.is("key", board.key(i * 15), i);
    Check.is("PENDING", board.pending() + " " + board.inputs(), "2 16");
    Check.refusedBy(board, "key", "IllegalStateException", () -> board.key(0));
    Check.refusedBy(board, "key", "IllegalArgumentException", () -> board.key(256));
    Check.refusedBy(board, "key", "IllegalArgumentException", () -> board.key(-1));
    Check.is("signal", board.signal() + " " + board.pending() + " " + board.signal(), "6 6 6");
    Check.is("nmi", board.nmi() + " " + board.nmi(), "false true");
    board.step();
    Check.is("nmi behind it is taken", board.nmi(), false);
  }

  private static void pokes() {
    FerriteBoard board = Check.ready("LDA #5\nSTA 1792\nHLT");
    Check.is("poke RAM", board.poke(0, 9) + " " + board.poke(0, 8) + " " + board.poke(1791, 255) + " " + board.byteAt(1791), "0 9 0 255");
    Check.is("poke ROM", board.poke(4095, 7) + " " + board.poke(3072, 33) + " " + board.byteAt(4095), "0 33 7");
    board.run(100);
    Check.is("BANK", board.bank(), 5);
    Check.is("poke bank 5", board.poke(2048, 77) + " " + board.poke(3071, 78) + " " + board.byteAt(2048), "0 0 77");
    Check.is("byteIn", board.byteIn(5, 0) + " " + board.byteIn(5, 1023) + " " + board.byteIn(0, 0), "77 78 0");
    Check.refusedBy(board, "poke", "IllegalArgumentException", () -> board.poke(1792, 0));
    Check.refusedBy(board, "poke", "IllegalArgumentException", () -> board.poke(2047, 0));
    Check.refusedBy(board, "poke", "IllegalArgumentException", () -> board.poke(-1, 0));
    Check.refusedBy(board, "poke", "IllegalArgumentException", () -> board.poke(4096, 0));
    Check.refusedBy(board, "poke", "IllegalArgumentException", () -> board.poke(5, 256));
    Check.refusedBy(board, "poke", "IllegalArgumentException", () -> board.poke(5, -1));
    Check.is("poke leaves the state", board.state(), 2);
    Check.is("byteAt PORTS", board.byteAt(1792) + " " + board.byteAt(2047), "0 0");
    Check.refusedBy(board, "byteAt", "IllegalArgumentException", () -> board.byteAt(-1));
    Check.refusedBy(board, "byteAt", "IllegalArgumentException", () -> board.byteAt(4096));
    Check.refusedBy(board, "byteIn", "IndexOutOfBoundsException", () -> board.byteIn(8, 0));
    Check.refusedBy(board, "byteIn", "IndexOutOfBoundsException", () -> board.byteIn(-1, 5000));
    Check.refusedBy(board, "byteIn", "IllegalArgumentException", () -> board.byteIn(0, 1024));
    Check.refusedBy(board, "byteIn", "IllegalArgumentException", () -> board.byteIn(7, -1));
  }

  private static void registersSet() {
    FerriteBoard board = new FerriteBoard();
    int[] first = {0, 0, 255, 4, 0};
    int[] most = {255, 255, 255, 31, 4095};
    for (int i = 0; i < 5; i++) {
      int register = i;
      Check.is("setRegister " + i, board.setRegister(i, most[i]) + " " + board.setRegister(i, 7) + " " + board.setRegister(i, most[i]), first[i] + " " + most[i] + " 7");
      Check.refusedBy(board, "setRegister " + i, "IllegalArgumentException", () -> board.setRegister(register, most[register] + 1));
      Check.refusedBy(board, "setRegister " + i, "IllegalArgumentException", () -> board.setRegister(register, -1));
    }
    Check.is("registers", registers(board), "255 255 255 31 4095 0");
    Check.refusedBy(board, "setRegister", "IndexOutOfBoundsException", () -> board.setRegister(5, -1));
    Check.refusedBy(board, "setRegister", "IndexOutOfBoundsException", () -> board.setRegister(-1, 0));
    board.setRegister(0, 0);
    Check.is("the others stay", registers(board), "0 255 255 31 4095 0");
  }

  /** HISTORY is empty behind each of these, and stays behind all else, and behind what is refused. */
  private static void history() {
    FerriteBoard board = new FerriteBoard();
    Runnable[] forget = {() -> board.feed(0, 0, 0, 0, 0), () -> board.trim(0), board::assemble, board::reset, () -> board.key(0), board::signal,
        board::nmi, () -> board.poke(0, 0), () -> board.setRegister(0, 0)};
    Runnable[] keep = {() -> board.setBreak(9, 0), () -> board.clearBreak(9), () -> board.setWatch(1, 2, true, true), board::clearWatches,
        board::digest, () -> board.cyclesToHalt(100), () -> Check.outcome(() -> board.trim(-1)), () -> Check.outcome(() -> board.key(-1)),
        () -> Check.outcome(() -> board.poke(-1, 0)), () -> Check.outcome(() -> board.setRegister(5, 0)), board::stopped};
    for (int i = 0; i < forget.length; i++) {
      board.step();
      board.step();
      for (Runnable one : keep) one.run();
      Check.is("history " + i, board.history() >= 2, true);
      forget[i].run();
      Check.is("forgotten " + i, board.history(), 0);
      Check.is("nothing comes back " + i, board.back(3), 0);
    }
  }

  public static void main(String[] args) {
    fresh();
    reset();
    keys();
    pokes();
    registersSet();
    history();
    Check.finish();
  }
}
