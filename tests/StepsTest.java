/** Section 4, and promises 16, 33, 34, 46, 47, 57: steps, vectors, waiting, and what is counted. */
public final class StepsTest {
  private static final String VECTORS = "\n.org 4080\n.word 3072,$101,$102,$103,$104,$105,$106,$107";

  private static FerriteBoard ready(String text, int flags) {
    FerriteBoard board = Check.ready(text + VECTORS);
    board.setRegister(3, flags);
    return board;
  }

  private static void mask(FerriteBoard board, int mask) {
    int pc = board.setRegister(4, 0);
    int a = board.setRegister(0, mask);
    int flags = board.setRegister(3, 4);
    board.poke(0, 131);
    board.poke(1, 1793 % 256);
    board.poke(2, 1793 / 256);
    board.step();
    board.setRegister(0, a);
    board.setRegister(4, pc);
    board.setRegister(3, flags);
  }

  private static void ended() {
    FerriteBoard board = ready("HLT", 0);
    Check.is("HLT", board.step() + " " + board.state() + " " + board.cycles() + " " + board.instructions(), "1 2 1 1");
    board.nmi();
    Check.is("HALTED", board.step() + " " + board.pc() + " " + board.history() + " " + board.cycles(), "0 3073 0 1");
    Check.is("NMI is wanted still", board.nmi(), true);
    board = ready(".byte 255", 0);
    Check.is("no instruction", board.step() + " " + board.state() + " " + board.pc() + " " + board.cycles() + " " + board.instructions(), "1 3 3072 1 0");
    Check.is("not counted", board.timesAt(3072) + " " + board.hottest() + " " + board.meanCycles(), "0 -1 0.0");
    Check.is("BROKEN", board.step() + " " + board.history(), "0 1");
    Check.is("taken back", board.back(1) + " " + board.state() + " " + board.cycles(), "1 0 0");
  }

  private static void vectors() {
    FerriteBoard board = ready("NOP", 27);
    board.nmi();
    Check.is("NMI", board.step() + " " + board.pc() + " " + board.flags() + " " + board.s() + " " + board.instructions(), "5 257 31 252 0");
    Check.is("pushed", board.byteAt(511) + " " + board.byteAt(510) + " " + board.byteAt(509) + " " + board.callAt(0), "12 0 27 3072");
    board = ready("NOP", 4);
    board.nmi();
    board.step();
    Check.is("NMI with I", board.pc() + " " + board.byteAt(509), "257 4");
    int[] lines = {1, 2, 4, 8};
    for (int mask = 0; mask < 16; mask++) {
      board = ready("LDA #1\nSTA 1798\nSTA 1800\nNOP\nNOP\nSTA 1806\nNOP\nNOP", 4);
      board.key(1);
      board.signal();
      for (int i = 0; i < 6; i++) board.step();
      Check.is("all lines", board.pending(), 15);
      mask(board, mask);
      int pc = board.pc();
      board.setRegister(3, 0);
      int due = -1;
      for (int k = 3; k >= 0; k--) if ((mask & lines[k]) != 0) due = 0x102 + k;
      Check.is("mask " + mask, board.step() + " " + board.pc(), due < 0 ? "1 " + (pc + 1) : "5 " + due);
      Check.is("PENDING stays", board.pending(), 15);
      if (due < 0) continue;
      board.setRegister(3, 0);
      board.nmi();
      board.step();
      Check.is("NMI is first", board.pc(), 0x101);
      Check.is("I holds lines off", board.step() + " " + board.pc(), "1 258");
    }
  }

  private static void waiting() {
    FerriteBoard board = ready("WAI\nINX", 0);
    board.step();
    Check.is("WAI", board.state() + " " + board.pc(), "1 3073");
    Check.is("waits", board.step() + " " + board.step() + " " + board.cycles() + " " + board.instructions() + " " + board.pc(), "1 1 3 1 3073");
    board.signal();
    Check.is("no line in MASK", board.step() + " " + board.state(), "1 1");
    mask(board, 0);
    board = ready("LDA #4\nSTA 1793\nWAI\nINX\n.org $104\nNOP", 0);
    board.step();
    board.step();
    board.step();
    board.signal();
    Check.is("taken from waiting", board.step() + " " + board.state() + " " + board.pc() + " " + board.callAt(0), "5 0 260 3078");
    board = ready("LDA #4\nSTA 1793\nWAI\nINX", 4);
    board.step();
    board.step();
    board.step();
    board.signal();
    Check.is("with I it goes on", board.step() + " " + board.state() + " " + board.pc() + " " + board.x(), "1 0 3079 1");
    board = ready("LDA #4\nSTA 1793\nWAI\n.byte 255", 4);
    board.step();
    board.step();
    board.step();
    board.signal();
    Check.is("or is broken", board.step() + " " + board.state(), "1 3");
    board = ready("WAI", 4);
    board.step();
    board.nmi();
    Check.is("NMI from waiting", board.step() + " " + board.state() + " " + board.pc(), "5 0 257");
  }

  private static void counted() {
    FerriteBoard board = ready("LDX #3\na: DEX\nBNE a\nMUL\nHLT", 4);
    board.run(5000);
    Check.is("cycles", board.cycles() + " " + board.instructions(), 2 + 3 + 8 + 9 + 1 + " " + 9);
    Check.is("times", board.timesAt(3072) + " " + board.timesAt(3074) + " " + board.timesAt(3075) + " " + board.timesAt(3073), "1 3 3 0");
    Check.is("hottest", board.hottest(), 3074);
    Check.is("mean", board.meanCycles(), 23.0 / 9);
    board.back(2);
    Check.is("taken back", board.timesAt(3078) + " " + board.timesAt(3077) + " " + board.instructions() + " " + board.cycles(), "0 0 7 13");
    board.back(200);
    Check.is("all taken back", board.hottest() + " " + board.instructions() + " " + board.meanCycles(), "-1 0 0.0");
    board.nmi();
    board.step();
    Check.is("a vector is no instruction", board.instructions() + " " + board.cycles() + " " + board.hottest(), "0 5 -1");
    FerriteBoard two = ready("LDA #1\nSTA 1792\nJMP 2048\n.org 2048\nJMP 2048\n.bank 1\n.org 2048\nNOP\nLDA #0\nSTA 1792\n.bank 0\n.org 2054\nJMP 2048", 4);
    two.run(60);
    Check.is("in whatever bank", two.timesAt(2048) > 3 && two.timesAt(2049) == 1, true);
    Check.refusedBy(two, "timesAt", "IllegalArgumentException", () -> two.timesAt(-1));
    Check.refusedBy(two, "timesAt", "IllegalArgumentException", () -> two.timesAt(4096));
    Check.is("in ports", ports(), "0 2 2");
  }

  /** The bytes of PORTS are NOPs. */
  private static String ports() {
    FerriteBoard board = new FerriteBoard();
    board.key(9);
    board.setRegister(4, 1792);
    board.step();
    int x = board.setRegister(4, 1796);
    board.step();
    return board.a() + " " + board.instructions() + " " + (x == 1793 ? board.cycles() : -1);
  }

  private static void portTime() {
    FerriteBoard board = ready("NOP\nNOP\nLDA 1807", 4);
    board.step();
    board.step();
    board.step();
    Check.is("cycles ahead of the step", board.a() + " " + board.cycles(), "2 6");
    board = ready("a: BRA a", 4);
    board.run(300);
    board.poke(3072, 35);
    board.poke(3073, 15);
    board.poke(3074, 7);
    int ahead = board.cycles();
    board.step();
    Check.is("% 256", board.a(), ahead % 256);
  }

  public static void main(String[] args) {
    ended();
    vectors();
    waiting();
    counted();
    portTime();
    Check.finish();
  }
}
